theorem law_0 {L : Nat} {xs : Nat → Int32} (hL : L ≤ 512) (k : Nat) (m : jM) (hI : Inv m) (hk : 8 * k + 8 ≤ L) (kk : ∀ m2, Inv m2 → jE (lB L xs) M_law 1187 (LL k) [] m2) : jE (lB L xs) M_law 156 (LL k) [] m := by
  refine e_aload_n dL_law_156 rfl ?_
  refine e_aload_n dL_law_157 rfl ?_
  refine e_iload_n dL_law_158 rfl ?_
  refine e_iconst (v := 1) dL_law_159 rfl ?_
  refine e_iadd dL_law_160 ?_
  refine l_sld dL_law_161 (8 * k + 1) (j_add rfl (show (1 : Int32) = nI 1 from rfl)) (by omega) ?_
  refine e_aload_n dL_law_162 rfl ?_
  refine e_iload_n dL_law_163 rfl ?_
  refine e_iconst (v := 2) dL_law_164 rfl ?_
  refine e_iadd dL_law_165 ?_
  refine l_sld dL_law_166 (8 * k + 2) (j_add rfl (show (2 : Int32) = nI 2 from rfl)) (by omega) ?_
  refine e_aload_n dL_law_167 rfl ?_
  refine e_iload_n dL_law_168 rfl ?_
  refine e_iconst (v := 3) dL_law_169 rfl ?_
  refine e_iadd dL_law_170 ?_
  refine l_sld dL_law_171 (8 * k + 3) (j_add rfl (show (3 : Int32) = nI 3 from rfl)) (by omega) ?_
  refine e_callVi (n := 3) mX3_row [.int (xs (8 * k + 1)), .int (xs (8 * k + 2)), .int (xs (8 * k + 3))] dL_law_172 ckL_13 rfl (by decide +kernel) rfl rfl rfl rfl (Nat.le_of_ble_eq_true rfl) ⟨(Nat.le_of_ble_eq_true rfl), (Nat.le_of_ble_eq_true rfl)⟩ (S_row m hI _ _ _) (fun v1 m1 h1 => ?_)
  refine e_aload_n dL_law_175 rfl ?_
  refine e_aload_n dL_law_176 rfl ?_
  refine e_iload_n dL_law_177 rfl ?_
  refine e_iconst (v := 1) dL_law_178 rfl ?_
  refine e_iadd dL_law_179 ?_
  refine l_sld dL_law_180 (8 * k + 1) (j_add rfl (show (1 : Int32) = nI 1 from rfl)) (by omega) ?_
  refine e_aload_n dL_law_181 rfl ?_
  refine e_iload_n dL_law_182 rfl ?_
  refine e_iconst (v := 2) dL_law_183 rfl ?_
  refine e_iadd dL_law_184 ?_
  refine l_sld dL_law_185 (8 * k + 2) (j_add rfl (show (2 : Int32) = nI 2 from rfl)) (by omega) ?_
  refine e_aload_n dL_law_186 rfl ?_
  refine e_iload_n dL_law_187 rfl ?_
  refine e_iconst (v := 3) dL_law_188 rfl ?_
  refine e_iadd dL_law_189 ?_
  refine l_sld dL_law_190 (8 * k + 3) (j_add rfl (show (3 : Int32) = nI 3 from rfl)) (by omega) ?_
  refine e_callVi (n := 3) mX4_row [.int (xs (8 * k + 1)), .int (xs (8 * k + 2)), .int (xs (8 * k + 3))] dL_law_191 ckL_17 rfl (by decide +kernel) rfl rfl rfl rfl (Nat.le_of_ble_eq_true rfl) ⟨(Nat.le_of_ble_eq_true rfl), (Nat.le_of_ble_eq_true rfl)⟩ h1 (fun v2 m2 h2 => ?_)
  exact e_icmp_eq 1187 dL_law_194 (by decide) (fun _ => kk m2 h2.2) (fun hne => absurd h2.1.symm hne)
theorem law_1 {L : Nat} {xs : Nat → Int32} (hL : L ≤ 512) (k : Nat) (m : jM) (hI : Inv m) (hk : 8 * k + 8 ≤ L) (kk : ∀ m2, Inv m2 → jE (lB L xs) M_law 1187 (LL k) [] m2) : jE (lB L xs) M_law 199 (LL k) [] m := by
  refine e_aload_n dL_law_199 rfl ?_
  refine e_aload_n dL_law_200 rfl ?_
  refine e_iload_n dL_law_201 rfl ?_
  refine e_iconst (v := 1) dL_law_202 rfl ?_
  refine e_iadd dL_law_203 ?_
  refine l_sld dL_law_204 (8 * k + 1) (j_add rfl (show (1 : Int32) = nI 1 from rfl)) (by omega) ?_
  refine e_aload_n dL_law_205 rfl ?_
  refine e_iload_n dL_law_206 rfl ?_
  refine e_iconst (v := 2) dL_law_207 rfl ?_
  refine e_iadd dL_law_208 ?_
  refine l_sld dL_law_209 (8 * k + 2) (j_add rfl (show (2 : Int32) = nI 2 from rfl)) (by omega) ?_
  refine e_aload_n dL_law_210 rfl ?_
  refine e_iload_n dL_law_211 rfl ?_
  refine e_iconst (v := 3) dL_law_212 rfl ?_
  refine e_iadd dL_law_213 ?_
  refine l_sld dL_law_214 (8 * k + 3) (j_add rfl (show (3 : Int32) = nI 3 from rfl)) (by omega) ?_
  refine e_callVi (n := 3) mX3_set [.int (xs (8 * k + 1)), .int (xs (8 * k + 2)), .int (xs (8 * k + 3))] dL_law_215 ckL_18 rfl (by decide +kernel) rfl rfl rfl rfl (Nat.le_of_ble_eq_true rfl) ⟨(Nat.le_of_ble_eq_true rfl), (Nat.le_of_ble_eq_true rfl)⟩ (S_set m hI _ _ _) (fun v1 m1 h1 => ?_)
  refine e_aload_n dL_law_218 rfl ?_
  refine e_aload_n dL_law_219 rfl ?_
  refine e_iload_n dL_law_220 rfl ?_
  refine e_iconst (v := 1) dL_law_221 rfl ?_
  refine e_iadd dL_law_222 ?_
  refine l_sld dL_law_223 (8 * k + 1) (j_add rfl (show (1 : Int32) = nI 1 from rfl)) (by omega) ?_
  refine e_aload_n dL_law_224 rfl ?_
  refine e_iload_n dL_law_225 rfl ?_
  refine e_iconst (v := 2) dL_law_226 rfl ?_
  refine e_iadd dL_law_227 ?_
  refine l_sld dL_law_228 (8 * k + 2) (j_add rfl (show (2 : Int32) = nI 2 from rfl)) (by omega) ?_
  refine e_aload_n dL_law_229 rfl ?_
  refine e_iload_n dL_law_230 rfl ?_
  refine e_iconst (v := 3) dL_law_231 rfl ?_
  refine e_iadd dL_law_232 ?_
  refine l_sld dL_law_233 (8 * k + 3) (j_add rfl (show (3 : Int32) = nI 3 from rfl)) (by omega) ?_
  refine e_callVi (n := 3) mX4_set [.int (xs (8 * k + 1)), .int (xs (8 * k + 2)), .int (xs (8 * k + 3))] dL_law_234 ckL_21 rfl (by decide +kernel) rfl rfl rfl rfl (Nat.le_of_ble_eq_true rfl) ⟨(Nat.le_of_ble_eq_true rfl), (Nat.le_of_ble_eq_true rfl)⟩ h1 (fun v2 m2 h2 => ?_)
  exact e_icmp_eq 1187 dL_law_237 (by decide) (fun _ => kk m2 h2.2) (fun hne => absurd h2.1.symm hne)
theorem law_2 {L : Nat} {xs : Nat → Int32} (hL : L ≤ 512) (k : Nat) (m : jM) (hI : Inv m) (hk : 8 * k + 8 ≤ L) (kk : ∀ m2, Inv m2 → jE (lB L xs) M_law 1187 (LL k) [] m2) : jE (lB L xs) M_law 242 (LL k) [] m := by
  refine e_aload_n dL_law_242 rfl ?_
  refine e_aload_n dL_law_243 rfl ?_
  refine e_iload_n dL_law_244 rfl ?_
  refine e_iconst (v := 1) dL_law_245 rfl ?_
  refine e_iadd dL_law_246 ?_
  refine l_sld dL_law_247 (8 * k + 1) (j_add rfl (show (1 : Int32) = nI 1 from rfl)) (by omega) ?_
  refine e_aload_n dL_law_248 rfl ?_
  refine e_iload_n dL_law_249 rfl ?_
  refine e_iconst (v := 2) dL_law_250 rfl ?_
  refine e_iadd dL_law_251 ?_
  refine l_sld dL_law_252 (8 * k + 2) (j_add rfl (show (2 : Int32) = nI 2 from rfl)) (by omega) ?_
  refine e_aload_n dL_law_253 rfl ?_
  refine e_iload_n dL_law_254 rfl ?_
  refine e_iconst (v := 3) dL_law_255 rfl ?_
  refine e_iadd dL_law_256 ?_
  refine l_sld dL_law_257 (8 * k + 3) (j_add rfl (show (3 : Int32) = nI 3 from rfl)) (by omega) ?_
  refine e_aload_n dL_law_258 rfl ?_
  refine e_iload_n dL_law_259 rfl ?_
  refine e_iconst (v := 4) dL_law_260 rfl ?_
  refine e_iadd dL_law_261 ?_
  refine l_sld dL_law_262 (8 * k + 4) (j_add rfl (show (4 : Int32) = nI 4 from rfl)) (by omega) ?_
  refine e_aload_n dL_law_263 rfl ?_
  refine e_iload_n dL_law_264 rfl ?_
  refine e_iconst (v := 5) dL_law_265 rfl ?_
  refine e_iadd dL_law_266 ?_
  refine l_sld dL_law_267 (8 * k + 5) (j_add rfl (show (5 : Int32) = nI 5 from rfl)) (by omega) ?_
  refine e_callVi (n := 5) mX3_copy [.int (xs (8 * k + 1)), .int (xs (8 * k + 2)), .int (xs (8 * k + 3)), .int (xs (8 * k + 4)), .int (xs (8 * k + 5))] dL_law_268 ckL_22 rfl (by decide +kernel) rfl rfl rfl rfl (Nat.le_of_ble_eq_true rfl) ⟨(Nat.le_of_ble_eq_true rfl), (Nat.le_of_ble_eq_true rfl)⟩ (S_copy m hI _ _ _ _ _) (fun v1 m1 h1 => ?_)
  refine e_aload_n dL_law_271 rfl ?_
  refine e_aload_n dL_law_272 rfl ?_
  refine e_iload_n dL_law_273 rfl ?_
  refine e_iconst (v := 1) dL_law_274 rfl ?_
  refine e_iadd dL_law_275 ?_
  refine l_sld dL_law_276 (8 * k + 1) (j_add rfl (show (1 : Int32) = nI 1 from rfl)) (by omega) ?_
  refine e_aload_n dL_law_277 rfl ?_
  refine e_iload_n dL_law_278 rfl ?_
  refine e_iconst (v := 2) dL_law_279 rfl ?_
  refine e_iadd dL_law_280 ?_
  refine l_sld dL_law_281 (8 * k + 2) (j_add rfl (show (2 : Int32) = nI 2 from rfl)) (by omega) ?_
  refine e_aload_n dL_law_282 rfl ?_
  refine e_iload_n dL_law_283 rfl ?_
  refine e_iconst (v := 3) dL_law_284 rfl ?_
  refine e_iadd dL_law_285 ?_
  refine l_sld dL_law_286 (8 * k + 3) (j_add rfl (show (3 : Int32) = nI 3 from rfl)) (by omega) ?_
  refine e_aload_n dL_law_287 rfl ?_
  refine e_iload_n dL_law_288 rfl ?_
  refine e_iconst (v := 4) dL_law_289 rfl ?_
  refine e_iadd dL_law_290 ?_
  refine l_sld dL_law_291 (8 * k + 4) (j_add rfl (show (4 : Int32) = nI 4 from rfl)) (by omega) ?_
  refine e_aload_n dL_law_292 rfl ?_
  refine e_iload_n dL_law_293 rfl ?_
  refine e_iconst (v := 5) dL_law_294 rfl ?_
  refine e_iadd dL_law_295 ?_
  refine l_sld dL_law_296 (8 * k + 5) (j_add rfl (show (5 : Int32) = nI 5 from rfl)) (by omega) ?_
  refine e_callVi (n := 5) mX4_copy [.int (xs (8 * k + 1)), .int (xs (8 * k + 2)), .int (xs (8 * k + 3)), .int (xs (8 * k + 4)), .int (xs (8 * k + 5))] dL_law_297 ckL_26 rfl (by decide +kernel) rfl rfl rfl rfl (Nat.le_of_ble_eq_true rfl) ⟨(Nat.le_of_ble_eq_true rfl), (Nat.le_of_ble_eq_true rfl)⟩ h1 (fun v2 m2 h2 => ?_)
  exact e_icmp_eq 1187 dL_law_300 (by decide) (fun _ => kk m2 h2.2) (fun hne => absurd h2.1.symm hne)
theorem law_3 {L : Nat} {xs : Nat → Int32} (hL : L ≤ 512) (k : Nat) (m : jM) (hI : Inv m) (hk : 8 * k + 8 ≤ L) (kk : ∀ m2, Inv m2 → jE (lB L xs) M_law 1187 (LL k) [] m2) : jE (lB L xs) M_law 305 (LL k) [] m := by
  refine e_aload_n dL_law_305 rfl ?_
  refine e_aload_n dL_law_306 rfl ?_
  refine e_iload_n dL_law_307 rfl ?_
  refine e_iconst (v := 1) dL_law_308 rfl ?_
  refine e_iadd dL_law_309 ?_
  refine l_sld dL_law_310 (8 * k + 1) (j_add rfl (show (1 : Int32) = nI 1 from rfl)) (by omega) ?_
  refine e_callVi (n := 1) mX3_drop [.int (xs (8 * k + 1))] dL_law_311 ckL_27 rfl (by decide +kernel) rfl rfl rfl rfl (Nat.le_of_ble_eq_true rfl) ⟨(Nat.le_of_ble_eq_true rfl), (Nat.le_of_ble_eq_true rfl)⟩ (S_drop m hI _) (fun v1 m1 h1 => ?_)
  refine e_aload_n dL_law_314 rfl ?_
  refine e_aload_n dL_law_315 rfl ?_
  refine e_iload_n dL_law_316 rfl ?_
  refine e_iconst (v := 1) dL_law_317 rfl ?_
  refine e_iadd dL_law_318 ?_
  refine l_sld dL_law_319 (8 * k + 1) (j_add rfl (show (1 : Int32) = nI 1 from rfl)) (by omega) ?_
  refine e_callVi (n := 1) mX4_drop [.int (xs (8 * k + 1))] dL_law_320 ckL_31 rfl (by decide +kernel) rfl rfl rfl rfl (Nat.le_of_ble_eq_true rfl) ⟨(Nat.le_of_ble_eq_true rfl), (Nat.le_of_ble_eq_true rfl)⟩ h1 (fun v2 m2 h2 => ?_)
  exact e_icmp_eq 1187 dL_law_323 (by decide) (fun _ => kk m2 h2.2) (fun hne => absurd h2.1.symm hne)
theorem law_4 {L : Nat} {xs : Nat → Int32} (hL : L ≤ 512) (k : Nat) (m : jM) (hI : Inv m) (hk : 8 * k + 8 ≤ L) (kk : ∀ m2, Inv m2 → jE (lB L xs) M_law 1187 (LL k) [] m2) : jE (lB L xs) M_law 328 (LL k) [] m := by
  refine e_aload_n dL_law_328 rfl ?_
  refine e_aload_n dL_law_329 rfl ?_
  refine e_iload_n dL_law_330 rfl ?_
  refine e_iconst (v := 1) dL_law_331 rfl ?_
  refine e_iadd dL_law_332 ?_
  refine l_sld dL_law_333 (8 * k + 1) (j_add rfl (show (1 : Int32) = nI 1 from rfl)) (by omega) ?_
  refine e_callVi (n := 1) mX3_feed [.int (xs (8 * k + 1))] dL_law_334 ckL_32 rfl (by decide +kernel) rfl rfl rfl rfl (Nat.le_of_ble_eq_true rfl) ⟨(Nat.le_of_ble_eq_true rfl), (Nat.le_of_ble_eq_true rfl)⟩ (S_feed m hI _) (fun v1 m1 h1 => ?_)
  refine e_aload_n dL_law_337 rfl ?_
  refine e_aload_n dL_law_338 rfl ?_
  refine e_iload_n dL_law_339 rfl ?_
  refine e_iconst (v := 1) dL_law_340 rfl ?_
  refine e_iadd dL_law_341 ?_
  refine l_sld dL_law_342 (8 * k + 1) (j_add rfl (show (1 : Int32) = nI 1 from rfl)) (by omega) ?_
  refine e_callVi (n := 1) mX4_feed [.int (xs (8 * k + 1))] dL_law_343 ckL_35 rfl (by decide +kernel) rfl rfl rfl rfl (Nat.le_of_ble_eq_true rfl) ⟨(Nat.le_of_ble_eq_true rfl), (Nat.le_of_ble_eq_true rfl)⟩ h1 (fun v2 m2 h2 => ?_)
  exact e_icmp_eq 1187 dL_law_346 (by decide) (fun _ => kk m2 h2.2) (fun hne => absurd h2.1.symm hne)
theorem law_5 {L : Nat} {xs : Nat → Int32} (hL : L ≤ 512) (k : Nat) (m : jM) (hI : Inv m) (hk : 8 * k + 8 ≤ L) (kk : ∀ m2, Inv m2 → jE (lB L xs) M_law 1187 (LL k) [] m2) : jE (lB L xs) M_law 351 (LL k) [] m := by
  refine e_aload_n dL_law_351 rfl ?_
  refine e_callVi (n := 0) mX3_kitchen [] dL_law_352 ckL_36 rfl (by decide +kernel) rfl rfl rfl rfl (Nat.le_of_ble_eq_true rfl) ⟨(Nat.le_of_ble_eq_true rfl), (Nat.le_of_ble_eq_true rfl)⟩ (S_kitchen m hI) (fun v1 m1 h1 => ?_)
  refine e_aload_n dL_law_355 rfl ?_
  refine e_callVi (n := 0) mX4_kitchen [] dL_law_356 ckL_40 rfl (by decide +kernel) rfl rfl rfl rfl (Nat.le_of_ble_eq_true rfl) ⟨(Nat.le_of_ble_eq_true rfl), (Nat.le_of_ble_eq_true rfl)⟩ h1 (fun v2 m2 h2 => ?_)
  exact e_icmp_eq 1187 dL_law_359 (by decide) (fun _ => kk m2 h2.2) (fun hne => absurd h2.1.symm hne)
theorem law_6 {L : Nat} {xs : Nat → Int32} (hL : L ≤ 512) (k : Nat) (m : jM) (hI : Inv m) (hk : 8 * k + 8 ≤ L) (kk : ∀ m2, Inv m2 → jE (lB L xs) M_law 1187 (LL k) [] m2) : jE (lB L xs) M_law 364 (LL k) [] m := by
  refine e_aload_n dL_law_364 rfl ?_
  refine e_callVi (n := 0) mX3_fault [] dL_law_365 ckL_41 rfl (by decide +kernel) rfl rfl rfl rfl (Nat.le_of_ble_eq_true rfl) ⟨(Nat.le_of_ble_eq_true rfl), (Nat.le_of_ble_eq_true rfl)⟩ (S_fault m hI) (fun v1 m1 h1 => ?_)
  refine e_aload_n dL_law_368 rfl ?_
  refine e_callVi (n := 0) mX4_fault [] dL_law_369 ckL_44 rfl (by decide +kernel) rfl rfl rfl rfl (Nat.le_of_ble_eq_true rfl) ⟨(Nat.le_of_ble_eq_true rfl), (Nat.le_of_ble_eq_true rfl)⟩ h1 (fun v2 m2 h2 => ?_)
  exact e_icmp_eq 1187 dL_law_372 (by decide) (fun _ => kk m2 h2.2) (fun hne => absurd h2.1.symm hne)
theorem law_7 {L : Nat} {xs : Nat → Int32} (hL : L ≤ 512) (k : Nat) (m : jM) (hI : Inv m) (hk : 8 * k + 8 ≤ L) (kk : ∀ m2, Inv m2 → jE (lB L xs) M_law 1187 (LL k) [] m2) : jE (lB L xs) M_law 377 (LL k) [] m := by
  refine e_aload_n dL_law_377 rfl ?_
  refine e_aload_n dL_law_378 rfl ?_
  refine e_iload_n dL_law_379 rfl ?_
  refine e_iconst (v := 1) dL_law_380 rfl ?_
  refine e_iadd dL_law_381 ?_
  refine l_sld dL_law_382 (8 * k + 1) (j_add rfl (show (1 : Int32) = nI 1 from rfl)) (by omega) ?_
  refine e_aload_n dL_law_383 rfl ?_
  refine e_iload_n dL_law_384 rfl ?_
  refine e_iconst (v := 2) dL_law_385 rfl ?_
  refine e_iadd dL_law_386 ?_
  refine l_sld dL_law_387 (8 * k + 2) (j_add rfl (show (2 : Int32) = nI 2 from rfl)) (by omega) ?_
  refine e_aload_n dL_law_388 rfl ?_
  refine e_iload_n dL_law_389 rfl ?_
  refine e_iconst (v := 3) dL_law_390 rfl ?_
  refine e_iadd dL_law_391 ?_
  refine l_sld dL_law_392 (8 * k + 3) (j_add rfl (show (3 : Int32) = nI 3 from rfl)) (by omega) ?_
  refine e_callVi (n := 3) mX3_bar [.int (xs (8 * k + 1)), .int (xs (8 * k + 2)), .int (xs (8 * k + 3))] dL_law_393 ckL_45 rfl (by decide +kernel) rfl rfl rfl rfl (Nat.le_of_ble_eq_true rfl) ⟨(Nat.le_of_ble_eq_true rfl), (Nat.le_of_ble_eq_true rfl)⟩ (S_bar m hI _ _ _) (fun v1 m1 h1 => ?_)
  refine e_aload_n dL_law_396 rfl ?_
  refine e_aload_n dL_law_397 rfl ?_
  refine e_iload_n dL_law_398 rfl ?_
  refine e_iconst (v := 1) dL_law_399 rfl ?_
  refine e_iadd dL_law_400 ?_
  refine l_sld dL_law_401 (8 * k + 1) (j_add rfl (show (1 : Int32) = nI 1 from rfl)) (by omega) ?_
  refine e_aload_n dL_law_402 rfl ?_
  refine e_iload_n dL_law_403 rfl ?_
  refine e_iconst (v := 2) dL_law_404 rfl ?_
  refine e_iadd dL_law_405 ?_
  refine l_sld dL_law_406 (8 * k + 2) (j_add rfl (show (2 : Int32) = nI 2 from rfl)) (by omega) ?_
  refine e_aload_n dL_law_407 rfl ?_
  refine e_iload_n dL_law_408 rfl ?_
  refine e_iconst (v := 3) dL_law_409 rfl ?_
  refine e_iadd dL_law_410 ?_
  refine l_sld dL_law_411 (8 * k + 3) (j_add rfl (show (3 : Int32) = nI 3 from rfl)) (by omega) ?_
  refine e_callVi (n := 3) mX4_bar [.int (xs (8 * k + 1)), .int (xs (8 * k + 2)), .int (xs (8 * k + 3))] dL_law_412 ckL_48 rfl (by decide +kernel) rfl rfl rfl rfl (Nat.le_of_ble_eq_true rfl) ⟨(Nat.le_of_ble_eq_true rfl), (Nat.le_of_ble_eq_true rfl)⟩ h1 (fun v2 m2 h2 => ?_)
  exact e_icmp_eq 1187 dL_law_415 (by decide) (fun _ => kk m2 h2.2) (fun hne => absurd h2.1.symm hne)
theorem law_8 {L : Nat} {xs : Nat → Int32} (hL : L ≤ 512) (k : Nat) (m : jM) (hI : Inv m) (hk : 8 * k + 8 ≤ L) (kk : ∀ m2, Inv m2 → jE (lB L xs) M_law 1187 (LL k) [] m2) : jE (lB L xs) M_law 420 (LL k) [] m := by
  refine e_aload_n dL_law_420 rfl ?_
  refine e_aload_n dL_law_421 rfl ?_
  refine e_iload_n dL_law_422 rfl ?_
  refine e_iconst (v := 1) dL_law_423 rfl ?_
  refine e_iadd dL_law_424 ?_
  refine l_sld dL_law_425 (8 * k + 1) (j_add rfl (show (1 : Int32) = nI 1 from rfl)) (by omega) ?_
  refine e_aload_n dL_law_426 rfl ?_
  refine e_iload_n dL_law_427 rfl ?_
  refine e_iconst (v := 2) dL_law_428 rfl ?_
  refine e_iadd dL_law_429 ?_
  refine l_sld dL_law_430 (8 * k + 2) (j_add rfl (show (2 : Int32) = nI 2 from rfl)) (by omega) ?_
  refine e_aload_n dL_law_431 rfl ?_
  refine e_iload_n dL_law_432 rfl ?_
  refine e_iconst (v := 3) dL_law_433 rfl ?_
  refine e_iadd dL_law_434 ?_
  refine l_sld dL_law_435 (8 * k + 3) (j_add rfl (show (3 : Int32) = nI 3 from rfl)) (by omega) ?_
  refine e_callVi (n := 3) mX3_window [.int (xs (8 * k + 1)), .int (xs (8 * k + 2)), .int (xs (8 * k + 3))] dL_law_436 ckL_49 rfl (by decide +kernel) rfl rfl rfl rfl (Nat.le_of_ble_eq_true rfl) ⟨(Nat.le_of_ble_eq_true rfl), (Nat.le_of_ble_eq_true rfl)⟩ (S_window m hI _ _ _) (fun v1 m1 h1 => ?_)
  refine e_aload_n dL_law_439 rfl ?_
  refine e_aload_n dL_law_440 rfl ?_
  refine e_iload_n dL_law_441 rfl ?_
  refine e_iconst (v := 1) dL_law_442 rfl ?_
  refine e_iadd dL_law_443 ?_
  refine l_sld dL_law_444 (8 * k + 1) (j_add rfl (show (1 : Int32) = nI 1 from rfl)) (by omega) ?_
  refine e_aload_n dL_law_445 rfl ?_
  refine e_iload_n dL_law_446 rfl ?_
  refine e_iconst (v := 2) dL_law_447 rfl ?_
  refine e_iadd dL_law_448 ?_
  refine l_sld dL_law_449 (8 * k + 2) (j_add rfl (show (2 : Int32) = nI 2 from rfl)) (by omega) ?_
  refine e_aload_n dL_law_450 rfl ?_
  refine e_iload_n dL_law_451 rfl ?_
  refine e_iconst (v := 3) dL_law_452 rfl ?_
  refine e_iadd dL_law_453 ?_
  refine l_sld dL_law_454 (8 * k + 3) (j_add rfl (show (3 : Int32) = nI 3 from rfl)) (by omega) ?_
  refine e_callVi (n := 3) mX4_window [.int (xs (8 * k + 1)), .int (xs (8 * k + 2)), .int (xs (8 * k + 3))] dL_law_455 ckL_52 rfl (by decide +kernel) rfl rfl rfl rfl (Nat.le_of_ble_eq_true rfl) ⟨(Nat.le_of_ble_eq_true rfl), (Nat.le_of_ble_eq_true rfl)⟩ h1 (fun v2 m2 h2 => ?_)
  exact e_icmp_eq 1187 dL_law_458 (by decide) (fun _ => kk m2 h2.2) (fun hne => absurd h2.1.symm hne)
theorem law_9 {L : Nat} {xs : Nat → Int32} (hL : L ≤ 512) (k : Nat) (m : jM) (hI : Inv m) (hk : 8 * k + 8 ≤ L) (kk : ∀ m2, Inv m2 → jE (lB L xs) M_law 1187 (LL k) [] m2) : jE (lB L xs) M_law 463 (LL k) [] m := by
  refine e_aload_n dL_law_463 rfl ?_
  refine e_callVi (n := 0) mX3_undo [] dL_law_464 ckL_53 rfl (by decide +kernel) rfl rfl rfl rfl (Nat.le_of_ble_eq_true rfl) ⟨(Nat.le_of_ble_eq_true rfl), (Nat.le_of_ble_eq_true rfl)⟩ (S_undo m hI) (fun v1 m1 h1 => ?_)
  refine e_aload_n dL_law_467 rfl ?_
  refine e_callVi (n := 0) mX4_undo [] dL_law_468 ckL_56 rfl (by decide +kernel) rfl rfl rfl rfl (Nat.le_of_ble_eq_true rfl) ⟨(Nat.le_of_ble_eq_true rfl), (Nat.le_of_ble_eq_true rfl)⟩ h1 (fun v2 m2 h2 => ?_)
  exact e_icmp_eq 1187 dL_law_471 (by decide) (fun _ => kk m2 h2.2) (fun hne => absurd h2.1.symm hne)
theorem law_10 {L : Nat} {xs : Nat → Int32} (hL : L ≤ 512) (k : Nat) (m : jM) (hI : Inv m) (hk : 8 * k + 8 ≤ L) (kk : ∀ m2, Inv m2 → jE (lB L xs) M_law 1187 (LL k) [] m2) : jE (lB L xs) M_law 476 (LL k) [] m := by
  refine e_aload_n dL_law_476 rfl ?_
  refine e_aload_n dL_law_477 rfl ?_
  refine e_iload_n dL_law_478 rfl ?_
  refine e_iconst (v := 1) dL_law_479 rfl ?_
  refine e_iadd dL_law_480 ?_
  refine l_sld dL_law_481 (8 * k + 1) (j_add rfl (show (1 : Int32) = nI 1 from rfl)) (by omega) ?_
  refine e_aload_n dL_law_482 rfl ?_
  refine e_iload_n dL_law_483 rfl ?_
  refine e_iconst (v := 2) dL_law_484 rfl ?_
  refine e_iadd dL_law_485 ?_
  refine l_sld dL_law_486 (8 * k + 2) (j_add rfl (show (2 : Int32) = nI 2 from rfl)) (by omega) ?_
  refine e_callVi (n := 2) mX3_pan [.int (xs (8 * k + 1)), .int (xs (8 * k + 2))] dL_law_487 ckL_57 rfl (by decide +kernel) rfl rfl rfl rfl (Nat.le_of_ble_eq_true rfl) ⟨(Nat.le_of_ble_eq_true rfl), (Nat.le_of_ble_eq_true rfl)⟩ (S_pan m hI _ _) (fun v1 m1 h1 => ?_)
  refine e_aload_n dL_law_490 rfl ?_
  refine e_aload_n dL_law_491 rfl ?_
  refine e_iload_n dL_law_492 rfl ?_
  refine e_iconst (v := 1) dL_law_493 rfl ?_
  refine e_iadd dL_law_494 ?_
  refine l_sld dL_law_495 (8 * k + 1) (j_add rfl (show (1 : Int32) = nI 1 from rfl)) (by omega) ?_
  refine e_aload_n dL_law_496 rfl ?_
  refine e_iload_n dL_law_497 rfl ?_
  refine e_iconst (v := 2) dL_law_498 rfl ?_
  refine e_iadd dL_law_499 ?_
  refine l_sld dL_law_500 (8 * k + 2) (j_add rfl (show (2 : Int32) = nI 2 from rfl)) (by omega) ?_
  refine e_callVi (n := 2) mX4_pan [.int (xs (8 * k + 1)), .int (xs (8 * k + 2))] dL_law_501 ckL_61 rfl (by decide +kernel) rfl rfl rfl rfl (Nat.le_of_ble_eq_true rfl) ⟨(Nat.le_of_ble_eq_true rfl), (Nat.le_of_ble_eq_true rfl)⟩ h1 (fun v2 m2 h2 => ?_)
  exact e_icmp_eq 1187 dL_law_504 (by decide) (fun _ => kk m2 h2.2) (fun hne => absurd h2.1.symm hne)
theorem law_11 {L : Nat} {xs : Nat → Int32} (hL : L ≤ 512) (k : Nat) (m : jM) (hI : Inv m) (hk : 8 * k + 8 ≤ L) (kk : ∀ m2, Inv m2 → jE (lB L xs) M_law 1187 (LL k) [] m2) : jE (lB L xs) M_law 509 (LL k) [] m := by
  refine e_aload_n dL_law_509 rfl ?_
  refine e_aload_n dL_law_510 rfl ?_
  refine e_iload_n dL_law_511 rfl ?_
  refine e_iconst (v := 1) dL_law_512 rfl ?_
  refine e_iadd dL_law_513 ?_
  refine l_sld dL_law_514 (8 * k + 1) (j_add rfl (show (1 : Int32) = nI 1 from rfl)) (by omega) ?_
  refine e_aload_n dL_law_515 rfl ?_
  refine e_iload_n dL_law_516 rfl ?_
  refine e_iconst (v := 2) dL_law_517 rfl ?_
  refine e_iadd dL_law_518 ?_
  refine l_sld dL_law_519 (8 * k + 2) (j_add rfl (show (2 : Int32) = nI 2 from rfl)) (by omega) ?_
  refine e_callVi (n := 2) mX3_singer [.int (xs (8 * k + 1)), .int (xs (8 * k + 2))] dL_law_520 ckL_62 rfl (by decide +kernel) rfl rfl rfl rfl (Nat.le_of_ble_eq_true rfl) ⟨(Nat.le_of_ble_eq_true rfl), (Nat.le_of_ble_eq_true rfl)⟩ (S_singer m hI _ _) (fun v1 m1 h1 => ?_)
  refine e_aload_n dL_law_523 rfl ?_
  refine e_aload_n dL_law_524 rfl ?_
  refine e_iload_n dL_law_525 rfl ?_
  refine e_iconst (v := 1) dL_law_526 rfl ?_
  refine e_iadd dL_law_527 ?_
  refine l_sld dL_law_528 (8 * k + 1) (j_add rfl (show (1 : Int32) = nI 1 from rfl)) (by omega) ?_
  refine e_aload_n dL_law_529 rfl ?_
  refine e_iload_n dL_law_530 rfl ?_
  refine e_iconst (v := 2) dL_law_531 rfl ?_
  refine e_iadd dL_law_532 ?_
  refine l_sld dL_law_533 (8 * k + 2) (j_add rfl (show (2 : Int32) = nI 2 from rfl)) (by omega) ?_
  refine e_callVi (n := 2) mX4_singer [.int (xs (8 * k + 1)), .int (xs (8 * k + 2))] dL_law_534 ckL_65 rfl (by decide +kernel) rfl rfl rfl rfl (Nat.le_of_ble_eq_true rfl) ⟨(Nat.le_of_ble_eq_true rfl), (Nat.le_of_ble_eq_true rfl)⟩ h1 (fun v2 m2 h2 => ?_)
  exact e_icmp_eq 1187 dL_law_537 (by decide) (fun _ => kk m2 h2.2) (fun hne => absurd h2.1.symm hne)
theorem law_12 {L : Nat} {xs : Nat → Int32} (hL : L ≤ 512) (k : Nat) (m : jM) (hI : Inv m) (hk : 8 * k + 8 ≤ L) (kk : ∀ m2, Inv m2 → jE (lB L xs) M_law 1187 (LL k) [] m2) : jE (lB L xs) M_law 542 (LL k) [] m := by
  refine e_aload_n dL_law_542 rfl ?_
  refine e_aload_n dL_law_543 rfl ?_
  refine e_iload_n dL_law_544 rfl ?_
  refine e_iconst (v := 1) dL_law_545 rfl ?_
  refine e_iadd dL_law_546 ?_
  refine l_sld dL_law_547 (8 * k + 1) (j_add rfl (show (1 : Int32) = nI 1 from rfl)) (by omega) ?_
  refine e_aload_n dL_law_548 rfl ?_
  refine e_iload_n dL_law_549 rfl ?_
  refine e_iconst (v := 2) dL_law_550 rfl ?_
  refine e_iadd dL_law_551 ?_
  refine l_sld dL_law_552 (8 * k + 2) (j_add rfl (show (2 : Int32) = nI 2 from rfl)) (by omega) ?_
  refine e_aload_n dL_law_553 rfl ?_
  refine e_iload_n dL_law_554 rfl ?_
  refine e_iconst (v := 3) dL_law_555 rfl ?_
  refine e_iadd dL_law_556 ?_
  refine l_sld dL_law_557 (8 * k + 3) (j_add rfl (show (3 : Int32) = nI 3 from rfl)) (by omega) ?_
  refine e_aload_n dL_law_558 rfl ?_
  refine e_iload_n dL_law_559 rfl ?_
  refine e_iconst (v := 4) dL_law_560 rfl ?_
  refine e_iadd dL_law_561 ?_
  refine l_sld dL_law_562 (8 * k + 4) (j_add rfl (show (4 : Int32) = nI 4 from rfl)) (by omega) ?_
  refine e_callVi (n := 4) mX3_alone [.int (xs (8 * k + 1)), .int (xs (8 * k + 2)), .int (xs (8 * k + 3)), .int (xs (8 * k + 4))] dL_law_563 ckL_66 rfl (by decide +kernel) rfl rfl rfl rfl (Nat.le_of_ble_eq_true rfl) ⟨(Nat.le_of_ble_eq_true rfl), (Nat.le_of_ble_eq_true rfl)⟩ (S_alone m hI _ _ _ _) (fun v1 m1 h1 => ?_)
  refine e_aload_n dL_law_566 rfl ?_
  refine e_aload_n dL_law_567 rfl ?_
  refine e_iload_n dL_law_568 rfl ?_
  refine e_iconst (v := 1) dL_law_569 rfl ?_
  refine e_iadd dL_law_570 ?_
  refine l_sld dL_law_571 (8 * k + 1) (j_add rfl (show (1 : Int32) = nI 1 from rfl)) (by omega) ?_
  refine e_aload_n dL_law_572 rfl ?_
  refine e_iload_n dL_law_573 rfl ?_
  refine e_iconst (v := 2) dL_law_574 rfl ?_
  refine e_iadd dL_law_575 ?_
  refine l_sld dL_law_576 (8 * k + 2) (j_add rfl (show (2 : Int32) = nI 2 from rfl)) (by omega) ?_
  refine e_aload_n dL_law_577 rfl ?_
  refine e_iload_n dL_law_578 rfl ?_
  refine e_iconst (v := 3) dL_law_579 rfl ?_
  refine e_iadd dL_law_580 ?_
  refine l_sld dL_law_581 (8 * k + 3) (j_add rfl (show (3 : Int32) = nI 3 from rfl)) (by omega) ?_
  refine e_aload_n dL_law_582 rfl ?_
  refine e_iload_n dL_law_583 rfl ?_
  refine e_iconst (v := 4) dL_law_584 rfl ?_
  refine e_iadd dL_law_585 ?_
  refine l_sld dL_law_586 (8 * k + 4) (j_add rfl (show (4 : Int32) = nI 4 from rfl)) (by omega) ?_
  refine e_callVi (n := 4) mX4_alone [.int (xs (8 * k + 1)), .int (xs (8 * k + 2)), .int (xs (8 * k + 3)), .int (xs (8 * k + 4))] dL_law_587 ckL_70 rfl (by decide +kernel) rfl rfl rfl rfl (Nat.le_of_ble_eq_true rfl) ⟨(Nat.le_of_ble_eq_true rfl), (Nat.le_of_ble_eq_true rfl)⟩ h1 (fun v2 m2 h2 => ?_)
  exact e_icmp_eq 1187 dL_law_590 (by decide) (fun _ => kk m2 h2.2) (fun hne => absurd h2.1.symm hne)
theorem law_13 {L : Nat} {xs : Nat → Int32} (hL : L ≤ 512) (k : Nat) (m : jM) (hI : Inv m) (hk : 8 * k + 8 ≤ L) (kk : ∀ m2, Inv m2 → jE (lB L xs) M_law 1187 (LL k) [] m2) : jE (lB L xs) M_law 595 (LL k) [] m := by
  refine e_aload_n dL_law_595 rfl ?_
  refine e_aload_n dL_law_596 rfl ?_
  refine e_iload_n dL_law_597 rfl ?_
  refine e_iconst (v := 1) dL_law_598 rfl ?_
  refine e_iadd dL_law_599 ?_
  refine l_sld dL_law_600 (8 * k + 1) (j_add rfl (show (1 : Int32) = nI 1 from rfl)) (by omega) ?_
  refine e_aload_n dL_law_601 rfl ?_
  refine e_iload_n dL_law_602 rfl ?_
  refine e_iconst (v := 2) dL_law_603 rfl ?_
  refine e_iadd dL_law_604 ?_
  refine l_sld dL_law_605 (8 * k + 2) (j_add rfl (show (2 : Int32) = nI 2 from rfl)) (by omega) ?_
  refine e_aload_n dL_law_606 rfl ?_
  refine e_iload_n dL_law_607 rfl ?_
  refine e_iconst (v := 3) dL_law_608 rfl ?_
  refine e_iadd dL_law_609 ?_
  refine l_sld dL_law_610 (8 * k + 3) (j_add rfl (show (3 : Int32) = nI 3 from rfl)) (by omega) ?_
  refine e_aload_n dL_law_611 rfl ?_
  refine e_iload_n dL_law_612 rfl ?_
  refine e_iconst (v := 4) dL_law_613 rfl ?_
  refine e_iadd dL_law_614 ?_
  refine l_sld dL_law_615 (8 * k + 4) (j_add rfl (show (4 : Int32) = nI 4 from rfl)) (by omega) ?_
  refine e_callVi (n := 4) mX3_round [.int (xs (8 * k + 1)), .int (xs (8 * k + 2)), .int (xs (8 * k + 3)), .int (xs (8 * k + 4))] dL_law_616 ckL_71 rfl (by decide +kernel) rfl rfl rfl rfl (Nat.le_of_ble_eq_true rfl) ⟨(Nat.le_of_ble_eq_true rfl), (Nat.le_of_ble_eq_true rfl)⟩ (S_round m hI _ _ _ _) (fun v1 m1 h1 => ?_)
  refine e_aload_n dL_law_619 rfl ?_
  refine e_aload_n dL_law_620 rfl ?_
  refine e_iload_n dL_law_621 rfl ?_
  refine e_iconst (v := 1) dL_law_622 rfl ?_
  refine e_iadd dL_law_623 ?_
  refine l_sld dL_law_624 (8 * k + 1) (j_add rfl (show (1 : Int32) = nI 1 from rfl)) (by omega) ?_
  refine e_aload_n dL_law_625 rfl ?_
  refine e_iload_n dL_law_626 rfl ?_
  refine e_iconst (v := 2) dL_law_627 rfl ?_
  refine e_iadd dL_law_628 ?_
  refine l_sld dL_law_629 (8 * k + 2) (j_add rfl (show (2 : Int32) = nI 2 from rfl)) (by omega) ?_
  refine e_aload_n dL_law_630 rfl ?_
  refine e_iload_n dL_law_631 rfl ?_
  refine e_iconst (v := 3) dL_law_632 rfl ?_
  refine e_iadd dL_law_633 ?_
  refine l_sld dL_law_634 (8 * k + 3) (j_add rfl (show (3 : Int32) = nI 3 from rfl)) (by omega) ?_
  refine e_aload_n dL_law_635 rfl ?_
  refine e_iload_n dL_law_636 rfl ?_
  refine e_iconst (v := 4) dL_law_637 rfl ?_
  refine e_iadd dL_law_638 ?_
  refine l_sld dL_law_639 (8 * k + 4) (j_add rfl (show (4 : Int32) = nI 4 from rfl)) (by omega) ?_
  refine e_callVi (n := 4) mX4_round [.int (xs (8 * k + 1)), .int (xs (8 * k + 2)), .int (xs (8 * k + 3)), .int (xs (8 * k + 4))] dL_law_640 ckL_74 rfl (by decide +kernel) rfl rfl rfl rfl (Nat.le_of_ble_eq_true rfl) ⟨(Nat.le_of_ble_eq_true rfl), (Nat.le_of_ble_eq_true rfl)⟩ h1 (fun v2 m2 h2 => ?_)
  exact e_icmp_eq 1187 dL_law_643 (by decide) (fun _ => kk m2 h2.2) (fun hne => absurd h2.1.symm hne)
theorem law_14 {L : Nat} {xs : Nat → Int32} (hL : L ≤ 512) (k : Nat) (m : jM) (hI : Inv m) (hk : 8 * k + 8 ≤ L) (kk : ∀ m2, Inv m2 → jE (lB L xs) M_law 1187 (LL k) [] m2) : jE (lB L xs) M_law 648 (LL k) [] m := by
  refine e_aload_n dL_law_648 rfl ?_
  refine e_aload_n dL_law_649 rfl ?_
  refine e_iload_n dL_law_650 rfl ?_
  refine e_iconst (v := 1) dL_law_651 rfl ?_
  refine e_iadd dL_law_652 ?_
  refine l_sld dL_law_653 (8 * k + 1) (j_add rfl (show (1 : Int32) = nI 1 from rfl)) (by omega) ?_
  refine e_aload_n dL_law_654 rfl ?_
  refine e_iload_n dL_law_655 rfl ?_
  refine e_iconst (v := 2) dL_law_656 rfl ?_
  refine e_iadd dL_law_657 ?_
  refine l_sld dL_law_658 (8 * k + 2) (j_add rfl (show (2 : Int32) = nI 2 from rfl)) (by omega) ?_
  refine e_aload_n dL_law_659 rfl ?_
  refine e_iload_n dL_law_660 rfl ?_
  refine e_iconst (v := 3) dL_law_661 rfl ?_
  refine e_iadd dL_law_662 ?_
  refine l_sld dL_law_663 (8 * k + 3) (j_add rfl (show (3 : Int32) = nI 3 from rfl)) (by omega) ?_
  refine e_aload_n dL_law_664 rfl ?_
  refine e_iload_n dL_law_665 rfl ?_
  refine e_iconst (v := 4) dL_law_666 rfl ?_
  refine e_iadd dL_law_667 ?_
  refine l_sld dL_law_668 (8 * k + 4) (j_add rfl (show (4 : Int32) = nI 4 from rfl)) (by omega) ?_
  refine e_callVi (n := 4) mX3_bestRound [.int (xs (8 * k + 1)), .int (xs (8 * k + 2)), .int (xs (8 * k + 3)), .int (xs (8 * k + 4))] dL_law_669 ckL_75 rfl (by decide +kernel) rfl rfl rfl rfl (Nat.le_of_ble_eq_true rfl) ⟨(Nat.le_of_ble_eq_true rfl), (Nat.le_of_ble_eq_true rfl)⟩ (S_best m hI _ _ _ _) (fun v1 m1 h1 => ?_)
  refine e_aload_n dL_law_672 rfl ?_
  refine e_aload_n dL_law_673 rfl ?_
  refine e_iload_n dL_law_674 rfl ?_
  refine e_iconst (v := 1) dL_law_675 rfl ?_
  refine e_iadd dL_law_676 ?_
  refine l_sld dL_law_677 (8 * k + 1) (j_add rfl (show (1 : Int32) = nI 1 from rfl)) (by omega) ?_
  refine e_aload_n dL_law_678 rfl ?_
  refine e_iload_n dL_law_679 rfl ?_
  refine e_iconst (v := 2) dL_law_680 rfl ?_
  refine e_iadd dL_law_681 ?_
  refine l_sld dL_law_682 (8 * k + 2) (j_add rfl (show (2 : Int32) = nI 2 from rfl)) (by omega) ?_
  refine e_aload_n dL_law_683 rfl ?_
  refine e_iload_n dL_law_684 rfl ?_
  refine e_iconst (v := 3) dL_law_685 rfl ?_
  refine e_iadd dL_law_686 ?_
  refine l_sld dL_law_687 (8 * k + 3) (j_add rfl (show (3 : Int32) = nI 3 from rfl)) (by omega) ?_
  refine e_aload_n dL_law_688 rfl ?_
  refine e_iload_n dL_law_689 rfl ?_
  refine e_iconst (v := 4) dL_law_690 rfl ?_
  refine e_iadd dL_law_691 ?_
  refine l_sld dL_law_692 (8 * k + 4) (j_add rfl (show (4 : Int32) = nI 4 from rfl)) (by omega) ?_
  refine e_callVi (n := 4) mX4_bestRound [.int (xs (8 * k + 1)), .int (xs (8 * k + 2)), .int (xs (8 * k + 3)), .int (xs (8 * k + 4))] dL_law_693 ckL_78 rfl (by decide +kernel) rfl rfl rfl rfl (Nat.le_of_ble_eq_true rfl) ⟨(Nat.le_of_ble_eq_true rfl), (Nat.le_of_ble_eq_true rfl)⟩ h1 (fun v2 m2 h2 => ?_)
  exact e_icmp_eq 1187 dL_law_696 (by decide) (fun _ => kk m2 h2.2) (fun hne => absurd h2.1.symm hne)
theorem law_15 {L : Nat} {xs : Nat → Int32} (hL : L ≤ 512) (k : Nat) (m : jM) (hI : Inv m) (hk : 8 * k + 8 ≤ L) (kk : ∀ m2, Inv m2 → jE (lB L xs) M_law 1187 (LL k) [] m2) : jE (lB L xs) M_law 701 (LL k) [] m := by
  refine e_aload_n dL_law_701 rfl ?_
  refine e_aload_n dL_law_702 rfl ?_
  refine e_iload_n dL_law_703 rfl ?_
  refine e_iconst (v := 1) dL_law_704 rfl ?_
  refine e_iadd dL_law_705 ?_
  refine l_sld dL_law_706 (8 * k + 1) (j_add rfl (show (1 : Int32) = nI 1 from rfl)) (by omega) ?_
  refine e_aload_n dL_law_707 rfl ?_
  refine e_iload_n dL_law_708 rfl ?_
  refine e_iconst (v := 2) dL_law_709 rfl ?_
  refine e_iadd dL_law_710 ?_
  refine l_sld dL_law_711 (8 * k + 2) (j_add rfl (show (2 : Int32) = nI 2 from rfl)) (by omega) ?_
  refine e_aload_n dL_law_712 rfl ?_
  refine e_iload_n dL_law_713 rfl ?_
  refine e_iconst (v := 3) dL_law_714 rfl ?_
  refine e_iadd dL_law_715 ?_
  refine l_sld dL_law_716 (8 * k + 3) (j_add rfl (show (3 : Int32) = nI 3 from rfl)) (by omega) ?_
  refine e_callVi (n := 3) mX3_song [.int (xs (8 * k + 1)), .int (xs (8 * k + 2)), .int (xs (8 * k + 3))] dL_law_717 ckL_79 rfl (by decide +kernel) rfl rfl rfl rfl (Nat.le_of_ble_eq_true rfl) ⟨(Nat.le_of_ble_eq_true rfl), (Nat.le_of_ble_eq_true rfl)⟩ (S_song m hI _ _ _) (fun v1 m1 h1 => ?_)
  refine e_aload_n dL_law_720 rfl ?_
  refine e_aload_n dL_law_721 rfl ?_
  refine e_iload_n dL_law_722 rfl ?_
  refine e_iconst (v := 1) dL_law_723 rfl ?_
  refine e_iadd dL_law_724 ?_
  refine l_sld dL_law_725 (8 * k + 1) (j_add rfl (show (1 : Int32) = nI 1 from rfl)) (by omega) ?_
  refine e_aload_n dL_law_726 rfl ?_
  refine e_iload_n dL_law_727 rfl ?_
  refine e_iconst (v := 2) dL_law_728 rfl ?_
  refine e_iadd dL_law_729 ?_
  refine l_sld dL_law_730 (8 * k + 2) (j_add rfl (show (2 : Int32) = nI 2 from rfl)) (by omega) ?_
  refine e_aload_n dL_law_731 rfl ?_
  refine e_iload_n dL_law_732 rfl ?_
  refine e_iconst (v := 3) dL_law_733 rfl ?_
  refine e_iadd dL_law_734 ?_
  refine l_sld dL_law_735 (8 * k + 3) (j_add rfl (show (3 : Int32) = nI 3 from rfl)) (by omega) ?_
  refine e_callVi (n := 3) mX4_song [.int (xs (8 * k + 1)), .int (xs (8 * k + 2)), .int (xs (8 * k + 3))] dL_law_736 ckL_82 rfl (by decide +kernel) rfl rfl rfl rfl (Nat.le_of_ble_eq_true rfl) ⟨(Nat.le_of_ble_eq_true rfl), (Nat.le_of_ble_eq_true rfl)⟩ h1 (fun v2 m2 h2 => ?_)
  exact e_icmp_eq 1187 dL_law_739 (by decide) (fun _ => kk m2 h2.2) (fun hne => absurd h2.1.symm hne)
theorem law_16 {L : Nat} {xs : Nat → Int32} (hL : L ≤ 512) (k : Nat) (m : jM) (hI : Inv m) (hk : 8 * k + 8 ≤ L) (kk : ∀ m2, Inv m2 → jE (lB L xs) M_law 1187 (LL k) [] m2) : jE (lB L xs) M_law 744 (LL k) [] m := by
  refine e_aload_n dL_law_744 rfl ?_
  refine e_aload_n dL_law_745 rfl ?_
  refine e_iload_n dL_law_746 rfl ?_
  refine e_iconst (v := 1) dL_law_747 rfl ?_
  refine e_iadd dL_law_748 ?_
  refine l_sld dL_law_749 (8 * k + 1) (j_add rfl (show (1 : Int32) = nI 1 from rfl)) (by omega) ?_
  refine e_aload_n dL_law_750 rfl ?_
  refine e_iload_n dL_law_751 rfl ?_
  refine e_iconst (v := 2) dL_law_752 rfl ?_
  refine e_iadd dL_law_753 ?_
  refine l_sld dL_law_754 (8 * k + 2) (j_add rfl (show (2 : Int32) = nI 2 from rfl)) (by omega) ?_
  refine e_aload_n dL_law_755 rfl ?_
  refine e_iload_n dL_law_756 rfl ?_
  refine e_iconst (v := 3) dL_law_757 rfl ?_
  refine e_iadd dL_law_758 ?_
  refine l_sld dL_law_759 (8 * k + 3) (j_add rfl (show (3 : Int32) = nI 3 from rfl)) (by omega) ?_
  refine e_aload_n dL_law_760 rfl ?_
  refine e_iload_n dL_law_761 rfl ?_
  refine e_iconst (v := 4) dL_law_762 rfl ?_
  refine e_iadd dL_law_763 ?_
  refine l_sld dL_law_764 (8 * k + 4) (j_add rfl (show (4 : Int32) = nI 4 from rfl)) (by omega) ?_
  refine e_aload_n dL_law_765 rfl ?_
  refine e_iload_n dL_law_766 rfl ?_
  refine e_iconst (v := 5) dL_law_767 rfl ?_
  refine e_iadd dL_law_768 ?_
  refine l_sld dL_law_769 (8 * k + 5) (j_add rfl (show (5 : Int32) = nI 5 from rfl)) (by omega) ?_
  refine e_aload_n dL_law_770 rfl ?_
  refine e_iload_n dL_law_771 rfl ?_
  refine e_bipush (v := 6) dL_law_772 rfl ?_
  refine e_iadd dL_law_774 ?_
  refine l_sld dL_law_775 (8 * k + 6) (j_add rfl (show (6 : Int32) = nI 6 from rfl)) (by omega) ?_
  refine e_callVi (n := 6) mX3_toShut [.int (xs (8 * k + 1)), .int (xs (8 * k + 2)), .int (xs (8 * k + 3)), .int (xs (8 * k + 4)), .int (xs (8 * k + 5)), .int (xs (8 * k + 6))] dL_law_776 ckL_83 rfl (by decide +kernel) rfl rfl rfl rfl (Nat.le_of_ble_eq_true rfl) ⟨(Nat.le_of_ble_eq_true rfl), (Nat.le_of_ble_eq_true rfl)⟩ (S_shut m hI _ _ _ _ _ _) (fun v1 m1 h1 => ?_)
  refine e_aload_n dL_law_779 rfl ?_
  refine e_aload_n dL_law_780 rfl ?_
  refine e_iload_n dL_law_781 rfl ?_
  refine e_iconst (v := 1) dL_law_782 rfl ?_
  refine e_iadd dL_law_783 ?_
  refine l_sld dL_law_784 (8 * k + 1) (j_add rfl (show (1 : Int32) = nI 1 from rfl)) (by omega) ?_
  refine e_aload_n dL_law_785 rfl ?_
  refine e_iload_n dL_law_786 rfl ?_
  refine e_iconst (v := 2) dL_law_787 rfl ?_
  refine e_iadd dL_law_788 ?_
  refine l_sld dL_law_789 (8 * k + 2) (j_add rfl (show (2 : Int32) = nI 2 from rfl)) (by omega) ?_
  refine e_aload_n dL_law_790 rfl ?_
  refine e_iload_n dL_law_791 rfl ?_
  refine e_iconst (v := 3) dL_law_792 rfl ?_
  refine e_iadd dL_law_793 ?_
  refine l_sld dL_law_794 (8 * k + 3) (j_add rfl (show (3 : Int32) = nI 3 from rfl)) (by omega) ?_
  refine e_aload_n dL_law_795 rfl ?_
  refine e_iload_n dL_law_796 rfl ?_
  refine e_iconst (v := 4) dL_law_797 rfl ?_
  refine e_iadd dL_law_798 ?_
  refine l_sld dL_law_799 (8 * k + 4) (j_add rfl (show (4 : Int32) = nI 4 from rfl)) (by omega) ?_
  refine e_aload_n dL_law_800 rfl ?_
  refine e_iload_n dL_law_801 rfl ?_
  refine e_iconst (v := 5) dL_law_802 rfl ?_
  refine e_iadd dL_law_803 ?_
  refine l_sld dL_law_804 (8 * k + 5) (j_add rfl (show (5 : Int32) = nI 5 from rfl)) (by omega) ?_
  refine e_aload_n dL_law_805 rfl ?_
  refine e_iload_n dL_law_806 rfl ?_
  refine e_bipush (v := 6) dL_law_807 rfl ?_
  refine e_iadd dL_law_809 ?_
  refine l_sld dL_law_810 (8 * k + 6) (j_add rfl (show (6 : Int32) = nI 6 from rfl)) (by omega) ?_
  refine e_callVi (n := 6) mX4_toShut [.int (xs (8 * k + 1)), .int (xs (8 * k + 2)), .int (xs (8 * k + 3)), .int (xs (8 * k + 4)), .int (xs (8 * k + 5)), .int (xs (8 * k + 6))] dL_law_811 ckL_87 rfl (by decide +kernel) rfl rfl rfl rfl (Nat.le_of_ble_eq_true rfl) ⟨(Nat.le_of_ble_eq_true rfl), (Nat.le_of_ble_eq_true rfl)⟩ h1 (fun v2 m2 h2 => ?_)
  exact e_icmp_eq 1187 dL_law_814 (by decide) (fun _ => kk m2 h2.2) (fun hne => absurd h2.1.symm hne)
theorem law_17 {L : Nat} {xs : Nat → Int32} (hL : L ≤ 512) (k : Nat) (m : jM) (hI : Inv m) (hk : 8 * k + 8 ≤ L) (kk : ∀ m2, Inv m2 → jE (lB L xs) M_law 1187 (LL k) [] m2) : jE (lB L xs) M_law 819 (LL k) [] m := by
  refine e_aload_n dL_law_819 rfl ?_
  refine e_aload_n dL_law_820 rfl ?_
  refine e_iload_n dL_law_821 rfl ?_
  refine e_iconst (v := 1) dL_law_822 rfl ?_
  refine e_iadd dL_law_823 ?_
  refine l_sld dL_law_824 (8 * k + 1) (j_add rfl (show (1 : Int32) = nI 1 from rfl)) (by omega) ?_
  refine e_aload_n dL_law_825 rfl ?_
  refine e_iload_n dL_law_826 rfl ?_
  refine e_iconst (v := 2) dL_law_827 rfl ?_
  refine e_iadd dL_law_828 ?_
  refine l_sld dL_law_829 (8 * k + 2) (j_add rfl (show (2 : Int32) = nI 2 from rfl)) (by omega) ?_
  refine e_aload_n dL_law_830 rfl ?_
  refine e_iload_n dL_law_831 rfl ?_
  refine e_iconst (v := 3) dL_law_832 rfl ?_
  refine e_iadd dL_law_833 ?_
  refine l_sld dL_law_834 (8 * k + 3) (j_add rfl (show (3 : Int32) = nI 3 from rfl)) (by omega) ?_
  refine e_aload_n dL_law_835 rfl ?_
  refine e_iload_n dL_law_836 rfl ?_
  refine e_iconst (v := 4) dL_law_837 rfl ?_
  refine e_iadd dL_law_838 ?_
  refine l_sld dL_law_839 (8 * k + 4) (j_add rfl (show (4 : Int32) = nI 4 from rfl)) (by omega) ?_
  refine e_aload_n dL_law_840 rfl ?_
  refine e_iload_n dL_law_841 rfl ?_
  refine e_iconst (v := 5) dL_law_842 rfl ?_
  refine e_iadd dL_law_843 ?_
  refine l_sld dL_law_844 (8 * k + 5) (j_add rfl (show (5 : Int32) = nI 5 from rfl)) (by omega) ?_
  refine e_aload_n dL_law_845 rfl ?_
  refine e_iload_n dL_law_846 rfl ?_
  refine e_bipush (v := 6) dL_law_847 rfl ?_
  refine e_iadd dL_law_849 ?_
  refine l_sld dL_law_850 (8 * k + 6) (j_add rfl (show (6 : Int32) = nI 6 from rfl)) (by omega) ?_
  refine e_aload_n dL_law_851 rfl ?_
  refine e_iload_n dL_law_852 rfl ?_
  refine e_bipush (v := 7) dL_law_853 rfl ?_
  refine e_iadd dL_law_855 ?_
  refine l_sld dL_law_856 (8 * k + 7) (j_add rfl (show (7 : Int32) = nI 7 from rfl)) (by omega) ?_
  refine e_callVi (n := 7) mX3_modes [.int (xs (8 * k + 1)), .int (xs (8 * k + 2)), .int (xs (8 * k + 3)), .int (xs (8 * k + 4)), .int (xs (8 * k + 5)), .int (xs (8 * k + 6)), .int (xs (8 * k + 7))] dL_law_857 ckL_88 rfl (by decide +kernel) rfl rfl rfl rfl (Nat.le_of_ble_eq_true rfl) ⟨(Nat.le_of_ble_eq_true rfl), (Nat.le_of_ble_eq_true rfl)⟩ (S_modes m hI _ _ _ _ _ _ _) (fun v1 m1 h1 => ?_)
  refine e_aload_n dL_law_860 rfl ?_
  refine e_aload_n dL_law_861 rfl ?_
  refine e_iload_n dL_law_862 rfl ?_
  refine e_iconst (v := 1) dL_law_863 rfl ?_
  refine e_iadd dL_law_864 ?_
  refine l_sld dL_law_865 (8 * k + 1) (j_add rfl (show (1 : Int32) = nI 1 from rfl)) (by omega) ?_
  refine e_aload_n dL_law_866 rfl ?_
  refine e_iload_n dL_law_867 rfl ?_
  refine e_iconst (v := 2) dL_law_868 rfl ?_
  refine e_iadd dL_law_869 ?_
  refine l_sld dL_law_870 (8 * k + 2) (j_add rfl (show (2 : Int32) = nI 2 from rfl)) (by omega) ?_
  refine e_aload_n dL_law_871 rfl ?_
  refine e_iload_n dL_law_872 rfl ?_
  refine e_iconst (v := 3) dL_law_873 rfl ?_
  refine e_iadd dL_law_874 ?_
  refine l_sld dL_law_875 (8 * k + 3) (j_add rfl (show (3 : Int32) = nI 3 from rfl)) (by omega) ?_
  refine e_aload_n dL_law_876 rfl ?_
  refine e_iload_n dL_law_877 rfl ?_
  refine e_iconst (v := 4) dL_law_878 rfl ?_
  refine e_iadd dL_law_879 ?_
  refine l_sld dL_law_880 (8 * k + 4) (j_add rfl (show (4 : Int32) = nI 4 from rfl)) (by omega) ?_
  refine e_aload_n dL_law_881 rfl ?_
  refine e_iload_n dL_law_882 rfl ?_
  refine e_iconst (v := 5) dL_law_883 rfl ?_
  refine e_iadd dL_law_884 ?_
  refine l_sld dL_law_885 (8 * k + 5) (j_add rfl (show (5 : Int32) = nI 5 from rfl)) (by omega) ?_
  refine e_aload_n dL_law_886 rfl ?_
  refine e_iload_n dL_law_887 rfl ?_
  refine e_bipush (v := 6) dL_law_888 rfl ?_
  refine e_iadd dL_law_890 ?_
  refine l_sld dL_law_891 (8 * k + 6) (j_add rfl (show (6 : Int32) = nI 6 from rfl)) (by omega) ?_
  refine e_aload_n dL_law_892 rfl ?_
  refine e_iload_n dL_law_893 rfl ?_
  refine e_bipush (v := 7) dL_law_894 rfl ?_
  refine e_iadd dL_law_896 ?_
  refine l_sld dL_law_897 (8 * k + 7) (j_add rfl (show (7 : Int32) = nI 7 from rfl)) (by omega) ?_
  refine e_callVi (n := 7) mX4_modes [.int (xs (8 * k + 1)), .int (xs (8 * k + 2)), .int (xs (8 * k + 3)), .int (xs (8 * k + 4)), .int (xs (8 * k + 5)), .int (xs (8 * k + 6)), .int (xs (8 * k + 7))] dL_law_898 ckL_92 rfl (by decide +kernel) rfl rfl rfl rfl (Nat.le_of_ble_eq_true rfl) ⟨(Nat.le_of_ble_eq_true rfl), (Nat.le_of_ble_eq_true rfl)⟩ h1 (fun v2 m2 h2 => ?_)
  exact e_icmp_eq 1187 dL_law_901 (by decide) (fun _ => kk m2 h2.2) (fun hne => absurd h2.1.symm hne)
theorem law_18 {L : Nat} {xs : Nat → Int32} (hL : L ≤ 512) (k : Nat) (m : jM) (hI : Inv m) (hk : 8 * k + 8 ≤ L) (kk : ∀ m2, Inv m2 → jE (lB L xs) M_law 1187 (LL k) [] m2) : jE (lB L xs) M_law 906 (LL k) [] m := by
  refine e_aload_n dL_law_906 rfl ?_
  refine e_aload_n dL_law_907 rfl ?_
  refine e_iload_n dL_law_908 rfl ?_
  refine e_iconst (v := 1) dL_law_909 rfl ?_
  refine e_iadd dL_law_910 ?_
  refine l_sld dL_law_911 (8 * k + 1) (j_add rfl (show (1 : Int32) = nI 1 from rfl)) (by omega) ?_
  refine e_aload_n dL_law_912 rfl ?_
  refine e_iload_n dL_law_913 rfl ?_
  refine e_iconst (v := 2) dL_law_914 rfl ?_
  refine e_iadd dL_law_915 ?_
  refine l_sld dL_law_916 (8 * k + 2) (j_add rfl (show (2 : Int32) = nI 2 from rfl)) (by omega) ?_
  refine e_aload_n dL_law_917 rfl ?_
  refine e_iload_n dL_law_918 rfl ?_
  refine e_iconst (v := 3) dL_law_919 rfl ?_
  refine e_iadd dL_law_920 ?_
  refine l_sld dL_law_921 (8 * k + 3) (j_add rfl (show (3 : Int32) = nI 3 from rfl)) (by omega) ?_
  refine e_aload_n dL_law_922 rfl ?_
  refine e_iload_n dL_law_923 rfl ?_
  refine e_iconst (v := 4) dL_law_924 rfl ?_
  refine e_iadd dL_law_925 ?_
  refine l_sld dL_law_926 (8 * k + 4) (j_add rfl (show (4 : Int32) = nI 4 from rfl)) (by omega) ?_
  refine e_aload_n dL_law_927 rfl ?_
  refine e_iload_n dL_law_928 rfl ?_
  refine e_iconst (v := 5) dL_law_929 rfl ?_
  refine e_iadd dL_law_930 ?_
  refine l_sld dL_law_931 (8 * k + 5) (j_add rfl (show (5 : Int32) = nI 5 from rfl)) (by omega) ?_
  refine e_aload_n dL_law_932 rfl ?_
  refine e_iload_n dL_law_933 rfl ?_
  refine e_bipush (v := 6) dL_law_934 rfl ?_
  refine e_iadd dL_law_936 ?_
  refine l_sld dL_law_937 (8 * k + 6) (j_add rfl (show (6 : Int32) = nI 6 from rfl)) (by omega) ?_
  refine e_aload_n dL_law_938 rfl ?_
  refine e_iload_n dL_law_939 rfl ?_
  refine e_bipush (v := 7) dL_law_940 rfl ?_
  refine e_iadd dL_law_942 ?_
  refine l_sld dL_law_943 (8 * k + 7) (j_add rfl (show (7 : Int32) = nI 7 from rfl)) (by omega) ?_
  refine e_callVi (n := 7) mX3_coughs [.int (xs (8 * k + 1)), .int (xs (8 * k + 2)), .int (xs (8 * k + 3)), .int (xs (8 * k + 4)), .int (xs (8 * k + 5)), .int (xs (8 * k + 6)), .int (xs (8 * k + 7))] dL_law_944 ckL_93 rfl (by decide +kernel) rfl rfl rfl rfl (Nat.le_of_ble_eq_true rfl) ⟨(Nat.le_of_ble_eq_true rfl), (Nat.le_of_ble_eq_true rfl)⟩ (S_coughs m hI _ _ _ _ _ _ _) (fun v1 m1 h1 => ?_)
  refine e_aload_n dL_law_947 rfl ?_
  refine e_aload_n dL_law_948 rfl ?_
  refine e_iload_n dL_law_949 rfl ?_
  refine e_iconst (v := 1) dL_law_950 rfl ?_
  refine e_iadd dL_law_951 ?_
  refine l_sld dL_law_952 (8 * k + 1) (j_add rfl (show (1 : Int32) = nI 1 from rfl)) (by omega) ?_
  refine e_aload_n dL_law_953 rfl ?_
  refine e_iload_n dL_law_954 rfl ?_
  refine e_iconst (v := 2) dL_law_955 rfl ?_
  refine e_iadd dL_law_956 ?_
  refine l_sld dL_law_957 (8 * k + 2) (j_add rfl (show (2 : Int32) = nI 2 from rfl)) (by omega) ?_
  refine e_aload_n dL_law_958 rfl ?_
  refine e_iload_n dL_law_959 rfl ?_
  refine e_iconst (v := 3) dL_law_960 rfl ?_
  refine e_iadd dL_law_961 ?_
  refine l_sld dL_law_962 (8 * k + 3) (j_add rfl (show (3 : Int32) = nI 3 from rfl)) (by omega) ?_
  refine e_aload_n dL_law_963 rfl ?_
  refine e_iload_n dL_law_964 rfl ?_
  refine e_iconst (v := 4) dL_law_965 rfl ?_
  refine e_iadd dL_law_966 ?_
  refine l_sld dL_law_967 (8 * k + 4) (j_add rfl (show (4 : Int32) = nI 4 from rfl)) (by omega) ?_
  refine e_aload_n dL_law_968 rfl ?_
  refine e_iload_n dL_law_969 rfl ?_
  refine e_iconst (v := 5) dL_law_970 rfl ?_
  refine e_iadd dL_law_971 ?_
  refine l_sld dL_law_972 (8 * k + 5) (j_add rfl (show (5 : Int32) = nI 5 from rfl)) (by omega) ?_
  refine e_aload_n dL_law_973 rfl ?_
  refine e_iload_n dL_law_974 rfl ?_
  refine e_bipush (v := 6) dL_law_975 rfl ?_
  refine e_iadd dL_law_977 ?_
  refine l_sld dL_law_978 (8 * k + 6) (j_add rfl (show (6 : Int32) = nI 6 from rfl)) (by omega) ?_
  refine e_aload_n dL_law_979 rfl ?_
  refine e_iload_n dL_law_980 rfl ?_
  refine e_bipush (v := 7) dL_law_981 rfl ?_
  refine e_iadd dL_law_983 ?_
  refine l_sld dL_law_984 (8 * k + 7) (j_add rfl (show (7 : Int32) = nI 7 from rfl)) (by omega) ?_
  refine e_callVi (n := 7) mX4_coughs [.int (xs (8 * k + 1)), .int (xs (8 * k + 2)), .int (xs (8 * k + 3)), .int (xs (8 * k + 4)), .int (xs (8 * k + 5)), .int (xs (8 * k + 6)), .int (xs (8 * k + 7))] dL_law_985 ckL_96 rfl (by decide +kernel) rfl rfl rfl rfl (Nat.le_of_ble_eq_true rfl) ⟨(Nat.le_of_ble_eq_true rfl), (Nat.le_of_ble_eq_true rfl)⟩ h1 (fun v2 m2 h2 => ?_)
  exact e_icmp_eq 1187 dL_law_988 (by decide) (fun _ => kk m2 h2.2) (fun hne => absurd h2.1.symm hne)
theorem law_19 {L : Nat} {xs : Nat → Int32} (hL : L ≤ 512) (k : Nat) (m : jM) (hI : Inv m) (hk : 8 * k + 8 ≤ L) (kk : ∀ m2, Inv m2 → jE (lB L xs) M_law 1187 (LL k) [] m2) : jE (lB L xs) M_law 993 (LL k) [] m := by
  refine e_aload_n dL_law_993 rfl ?_
  refine e_aload_n dL_law_994 rfl ?_
  refine e_iload_n dL_law_995 rfl ?_
  refine e_iconst (v := 1) dL_law_996 rfl ?_
  refine e_iadd dL_law_997 ?_
  refine l_sld dL_law_998 (8 * k + 1) (j_add rfl (show (1 : Int32) = nI 1 from rfl)) (by omega) ?_
  refine e_callVi (n := 1) mX3_image [.int (xs (8 * k + 1))] dL_law_999 ckL_97 rfl (by decide +kernel) rfl rfl rfl rfl (Nat.le_of_ble_eq_true rfl) ⟨(Nat.le_of_ble_eq_true rfl), (Nat.le_of_ble_eq_true rfl)⟩ (S_image m hI _) (fun v1 m1 h1 => ?_)
  refine e_aload_n dL_law_1002 rfl ?_
  refine e_aload_n dL_law_1003 rfl ?_
  refine e_iload_n dL_law_1004 rfl ?_
  refine e_iconst (v := 1) dL_law_1005 rfl ?_
  refine e_iadd dL_law_1006 ?_
  refine l_sld dL_law_1007 (8 * k + 1) (j_add rfl (show (1 : Int32) = nI 1 from rfl)) (by omega) ?_
  refine e_callVi (n := 1) mX4_image [.int (xs (8 * k + 1))] dL_law_1008 ckL_100 rfl (by decide +kernel) rfl rfl rfl rfl (Nat.le_of_ble_eq_true rfl) ⟨(Nat.le_of_ble_eq_true rfl), (Nat.le_of_ble_eq_true rfl)⟩ h1 (fun v2 m2 h2 => ?_)
  exact e_icmp_eq 1187 dL_law_1011 (by decide) (fun _ => kk m2 h2.2) (fun hne => absurd h2.1.symm hne)
theorem law_20 {L : Nat} {xs : Nat → Int32} (hL : L ≤ 512) (k : Nat) (m : jM) (hI : Inv m) (hk : 8 * k + 8 ≤ L) (kk : ∀ m2, Inv m2 → jE (lB L xs) M_law 1187 (LL k) [] m2) : jE (lB L xs) M_law 1016 (LL k) [] m := by
  refine e_aload_n dL_law_1016 rfl ?_
  refine e_aload_n dL_law_1017 rfl ?_
  refine e_iload_n dL_law_1018 rfl ?_
  refine e_iconst (v := 1) dL_law_1019 rfl ?_
  refine e_iadd dL_law_1020 ?_
  refine l_sld dL_law_1021 (8 * k + 1) (j_add rfl (show (1 : Int32) = nI 1 from rfl)) (by omega) ?_
  refine e_callVi (n := 1) mX3_restore [.int (xs (8 * k + 1))] dL_law_1022 ckL_101 rfl (by decide +kernel) rfl rfl rfl rfl (Nat.le_of_ble_eq_true rfl) ⟨(Nat.le_of_ble_eq_true rfl), (Nat.le_of_ble_eq_true rfl)⟩ (S_restore m hI _) (fun v1 m1 h1 => ?_)
  refine e_aload_n dL_law_1025 rfl ?_
  refine e_aload_n dL_law_1026 rfl ?_
  refine e_iload_n dL_law_1027 rfl ?_
  refine e_iconst (v := 1) dL_law_1028 rfl ?_
  refine e_iadd dL_law_1029 ?_
  refine l_sld dL_law_1030 (8 * k + 1) (j_add rfl (show (1 : Int32) = nI 1 from rfl)) (by omega) ?_
  refine e_callVi (n := 1) mX4_restore [.int (xs (8 * k + 1))] dL_law_1031 ckL_104 rfl (by decide +kernel) rfl rfl rfl rfl (Nat.le_of_ble_eq_true rfl) ⟨(Nat.le_of_ble_eq_true rfl), (Nat.le_of_ble_eq_true rfl)⟩ h1 (fun v2 m2 h2 => ?_)
  exact e_icmp_eq 1187 dL_law_1034 (by decide) (fun _ => kk m2 h2.2) (fun hne => absurd h2.1.symm hne)
theorem law_21 {L : Nat} {xs : Nat → Int32} (hL : L ≤ 512) (k : Nat) (m : jM) (hI : Inv m) (hk : 8 * k + 8 ≤ L) (kk : ∀ m2, Inv m2 → jE (lB L xs) M_law 1187 (LL k) [] m2) : jE (lB L xs) M_law 1039 (LL k) [] m := by
  refine e_aload_n dL_law_1039 rfl ?_
  refine e_aload_n dL_law_1040 rfl ?_
  refine e_iload_n dL_law_1041 rfl ?_
  refine e_iconst (v := 1) dL_law_1042 rfl ?_
  refine e_iadd dL_law_1043 ?_
  refine l_sld dL_law_1044 (8 * k + 1) (j_add rfl (show (1 : Int32) = nI 1 from rfl)) (by omega) ?_
  refine e_callVi (n := 1) mX3_kind [.int (xs (8 * k + 1))] dL_law_1045 ckL_105 rfl (by decide +kernel) rfl rfl rfl rfl (Nat.le_of_ble_eq_true rfl) ⟨(Nat.le_of_ble_eq_true rfl), (Nat.le_of_ble_eq_true rfl)⟩ (S_kind m hI _) (fun v1 m1 h1 => ?_)
  refine e_aload_n dL_law_1048 rfl ?_
  refine e_aload_n dL_law_1049 rfl ?_
  refine e_iload_n dL_law_1050 rfl ?_
  refine e_iconst (v := 1) dL_law_1051 rfl ?_
  refine e_iadd dL_law_1052 ?_
  refine l_sld dL_law_1053 (8 * k + 1) (j_add rfl (show (1 : Int32) = nI 1 from rfl)) (by omega) ?_
  refine e_callVi (n := 1) mX4_kind [.int (xs (8 * k + 1))] dL_law_1054 ckL_108 rfl (by decide +kernel) rfl rfl rfl rfl (Nat.le_of_ble_eq_true rfl) ⟨(Nat.le_of_ble_eq_true rfl), (Nat.le_of_ble_eq_true rfl)⟩ h1 (fun v2 m2 h2 => ?_)
  exact e_icmp_eq 1187 dL_law_1057 (by decide) (fun _ => kk m2 h2.2) (fun hne => absurd h2.1.symm hne)
theorem law_22 {L : Nat} {xs : Nat → Int32} (hL : L ≤ 512) (k : Nat) (m : jM) (hI : Inv m) (hk : 8 * k + 8 ≤ L) (kk : ∀ m2, Inv m2 → jE (lB L xs) M_law 1187 (LL k) [] m2) : jE (lB L xs) M_law 1062 (LL k) [] m := by
  refine e_aload_n dL_law_1062 rfl ?_
  refine e_aload_n dL_law_1063 rfl ?_
  refine e_iload_n dL_law_1064 rfl ?_
  refine e_iconst (v := 1) dL_law_1065 rfl ?_
  refine e_iadd dL_law_1066 ?_
  refine l_sld dL_law_1067 (8 * k + 1) (j_add rfl (show (1 : Int32) = nI 1 from rfl)) (by omega) ?_
  refine e_aload_n dL_law_1068 rfl ?_
  refine e_iload_n dL_law_1069 rfl ?_
  refine e_iconst (v := 2) dL_law_1070 rfl ?_
  refine e_iadd dL_law_1071 ?_
  refine l_sld dL_law_1072 (8 * k + 2) (j_add rfl (show (2 : Int32) = nI 2 from rfl)) (by omega) ?_
  refine e_callVi (n := 2) mX3_as [.int (xs (8 * k + 1)), .int (xs (8 * k + 2))] dL_law_1073 ckL_109 rfl (by decide +kernel) rfl rfl rfl rfl (Nat.le_of_ble_eq_true rfl) ⟨(Nat.le_of_ble_eq_true rfl), (Nat.le_of_ble_eq_true rfl)⟩ (S_as m hI _ _) (fun v1 m1 h1 => ?_)
  refine e_aload_n dL_law_1076 rfl ?_
  refine e_aload_n dL_law_1077 rfl ?_
  refine e_iload_n dL_law_1078 rfl ?_
  refine e_iconst (v := 1) dL_law_1079 rfl ?_
  refine e_iadd dL_law_1080 ?_
  refine l_sld dL_law_1081 (8 * k + 1) (j_add rfl (show (1 : Int32) = nI 1 from rfl)) (by omega) ?_
  refine e_aload_n dL_law_1082 rfl ?_
  refine e_iload_n dL_law_1083 rfl ?_
  refine e_iconst (v := 2) dL_law_1084 rfl ?_
  refine e_iadd dL_law_1085 ?_
  refine l_sld dL_law_1086 (8 * k + 2) (j_add rfl (show (2 : Int32) = nI 2 from rfl)) (by omega) ?_
  refine e_callVi (n := 2) mX4_as [.int (xs (8 * k + 1)), .int (xs (8 * k + 2))] dL_law_1087 ckL_112 rfl (by decide +kernel) rfl rfl rfl rfl (Nat.le_of_ble_eq_true rfl) ⟨(Nat.le_of_ble_eq_true rfl), (Nat.le_of_ble_eq_true rfl)⟩ h1 (fun v2 m2 h2 => ?_)
  exact e_icmp_eq 1187 dL_law_1090 (by decide) (fun _ => kk m2 h2.2) (fun hne => absurd h2.1.symm hne)
theorem law_23 {L : Nat} {xs : Nat → Int32} (hL : L ≤ 512) (k : Nat) (m : jM) (hI : Inv m) (hk : 8 * k + 8 ≤ L) (kk : ∀ m2, Inv m2 → jE (lB L xs) M_law 1187 (LL k) [] m2) : jE (lB L xs) M_law 1095 (LL k) [] m := by
  refine e_aload_n dL_law_1095 rfl ?_
  refine e_aload_n dL_law_1096 rfl ?_
  refine e_iload_n dL_law_1097 rfl ?_
  refine e_iconst (v := 1) dL_law_1098 rfl ?_
  refine e_iadd dL_law_1099 ?_
  refine l_sld dL_law_1100 (8 * k + 1) (j_add rfl (show (1 : Int32) = nI 1 from rfl)) (by omega) ?_
  refine e_aload_n dL_law_1101 rfl ?_
  refine e_iload_n dL_law_1102 rfl ?_
  refine e_iconst (v := 2) dL_law_1103 rfl ?_
  refine e_iadd dL_law_1104 ?_
  refine l_sld dL_law_1105 (8 * k + 2) (j_add rfl (show (2 : Int32) = nI 2 from rfl)) (by omega) ?_
  refine e_callVi (n := 2) mX3_ask [.int (xs (8 * k + 1)), .int (xs (8 * k + 2))] dL_law_1106 ckL_113 rfl (by decide +kernel) rfl rfl rfl rfl (Nat.le_of_ble_eq_true rfl) ⟨(Nat.le_of_ble_eq_true rfl), (Nat.le_of_ble_eq_true rfl)⟩ (S_ask m hI _ _) (fun v1 m1 h1 => ?_)
  refine e_aload_n dL_law_1109 rfl ?_
  refine e_aload_n dL_law_1110 rfl ?_
  refine e_iload_n dL_law_1111 rfl ?_
  refine e_iconst (v := 1) dL_law_1112 rfl ?_
  refine e_iadd dL_law_1113 ?_
  refine l_sld dL_law_1114 (8 * k + 1) (j_add rfl (show (1 : Int32) = nI 1 from rfl)) (by omega) ?_
  refine e_aload_n dL_law_1115 rfl ?_
  refine e_iload_n dL_law_1116 rfl ?_
  refine e_iconst (v := 2) dL_law_1117 rfl ?_
  refine e_iadd dL_law_1118 ?_
  refine l_sld dL_law_1119 (8 * k + 2) (j_add rfl (show (2 : Int32) = nI 2 from rfl)) (by omega) ?_
  refine e_callVi (n := 2) mX4_ask [.int (xs (8 * k + 1)), .int (xs (8 * k + 2))] dL_law_1120 ckL_116 rfl (by decide +kernel) rfl rfl rfl rfl (Nat.le_of_ble_eq_true rfl) ⟨(Nat.le_of_ble_eq_true rfl), (Nat.le_of_ble_eq_true rfl)⟩ h1 (fun v2 m2 h2 => ?_)
  exact e_icmp_eq 1187 dL_law_1123 (by decide) (fun _ => kk m2 h2.2) (fun hne => absurd h2.1.symm hne)
theorem law_24 {L : Nat} {xs : Nat → Int32} (hL : L ≤ 512) (k : Nat) (m : jM) (hI : Inv m) (hk : 8 * k + 8 ≤ L) (kk : ∀ m2, Inv m2 → jE (lB L xs) M_law 1187 (LL k) [] m2) : jE (lB L xs) M_law 1128 (LL k) [] m := by
  refine e_aload_n dL_law_1128 rfl ?_
  refine e_aload_n dL_law_1129 rfl ?_
  refine e_iload_n dL_law_1130 rfl ?_
  refine e_iconst (v := 1) dL_law_1131 rfl ?_
  refine e_iadd dL_law_1132 ?_
  refine l_sld dL_law_1133 (8 * k + 1) (j_add rfl (show (1 : Int32) = nI 1 from rfl)) (by omega) ?_
  refine e_callVi (n := 1) mX3_trace [.int (xs (8 * k + 1))] dL_law_1134 ckL_117 rfl (by decide +kernel) rfl rfl rfl rfl (Nat.le_of_ble_eq_true rfl) ⟨(Nat.le_of_ble_eq_true rfl), (Nat.le_of_ble_eq_true rfl)⟩ (S_trace m hI _) (fun v1 m1 h1 => ?_)
  refine e_aload_n dL_law_1137 rfl ?_
  refine e_aload_n dL_law_1138 rfl ?_
  refine e_iload_n dL_law_1139 rfl ?_
  refine e_iconst (v := 1) dL_law_1140 rfl ?_
  refine e_iadd dL_law_1141 ?_
  refine l_sld dL_law_1142 (8 * k + 1) (j_add rfl (show (1 : Int32) = nI 1 from rfl)) (by omega) ?_
  refine e_callVi (n := 1) mX4_trace [.int (xs (8 * k + 1))] dL_law_1143 ckL_120 rfl (by decide +kernel) rfl rfl rfl rfl (Nat.le_of_ble_eq_true rfl) ⟨(Nat.le_of_ble_eq_true rfl), (Nat.le_of_ble_eq_true rfl)⟩ h1 (fun v2 m2 h2 => ?_)
  exact e_icmp_eq 1187 dL_law_1146 (by decide) (fun _ => kk m2 h2.2) (fun hne => absurd h2.1.symm hne)
theorem law_25 {L : Nat} {xs : Nat → Int32} (hL : L ≤ 512) (k : Nat) (m : jM) (hI : Inv m) (hk : 8 * k + 8 ≤ L) (kk : ∀ m2, Inv m2 → jE (lB L xs) M_law 1187 (LL k) [] m2) : jE (lB L xs) M_law 1151 (LL k) [] m := by
  refine e_aload_n dL_law_1151 rfl ?_
  refine e_aload_n dL_law_1152 rfl ?_
  refine e_iload_n dL_law_1153 rfl ?_
  refine e_iconst (v := 1) dL_law_1154 rfl ?_
  refine e_iadd dL_law_1155 ?_
  refine l_sld dL_law_1156 (8 * k + 1) (j_add rfl (show (1 : Int32) = nI 1 from rfl)) (by omega) ?_
  refine e_callVi (n := 1) mX3_count [.int (xs (8 * k + 1))] dL_law_1157 ckL_121 rfl (by decide +kernel) rfl rfl rfl rfl (Nat.le_of_ble_eq_true rfl) ⟨(Nat.le_of_ble_eq_true rfl), (Nat.le_of_ble_eq_true rfl)⟩ (S_count m hI _) (fun v1 m1 h1 => ?_)
  refine e_aload_n dL_law_1160 rfl ?_
  refine e_aload_n dL_law_1161 rfl ?_
  refine e_iload_n dL_law_1162 rfl ?_
  refine e_iconst (v := 1) dL_law_1163 rfl ?_
  refine e_iadd dL_law_1164 ?_
  refine l_sld dL_law_1165 (8 * k + 1) (j_add rfl (show (1 : Int32) = nI 1 from rfl)) (by omega) ?_
  refine e_callVi (n := 1) mX4_count [.int (xs (8 * k + 1))] dL_law_1166 ckL_124 rfl (by decide +kernel) rfl rfl rfl rfl (Nat.le_of_ble_eq_true rfl) ⟨(Nat.le_of_ble_eq_true rfl), (Nat.le_of_ble_eq_true rfl)⟩ h1 (fun v2 m2 h2 => ?_)
  exact e_icmp_eq 1187 dL_law_1169 (by decide) (fun _ => kk m2 h2.2) (fun hne => absurd h2.1.symm hne)
theorem law_26 {L : Nat} {xs : Nat → Int32} (hL : L ≤ 512) (k : Nat) (m : jM) (hI : Inv m) (hk : 8 * k + 8 ≤ L) (kk : ∀ m2, Inv m2 → jE (lB L xs) M_law 1187 (LL k) [] m2) : jE (lB L xs) M_law 1174 (LL k) [] m := by
  refine e_aload_n dL_law_1174 rfl ?_
  refine e_callVi (n := 0) mX3_status [] dL_law_1175 ckL_125 rfl (by decide +kernel) rfl rfl rfl rfl (Nat.le_of_ble_eq_true rfl) ⟨(Nat.le_of_ble_eq_true rfl), (Nat.le_of_ble_eq_true rfl)⟩ (S_status m hI) (fun v1 m1 h1 => ?_)
  refine e_aload_n dL_law_1178 rfl ?_
  refine e_callVi (n := 0) mX4_status [] dL_law_1179 ckL_128 rfl (by decide +kernel) rfl rfl rfl rfl (Nat.le_of_ble_eq_true rfl) ⟨(Nat.le_of_ble_eq_true rfl), (Nat.le_of_ble_eq_true rfl)⟩ h1 (fun v2 m2 h2 => ?_)
  exact e_icmp_eq 1187 dL_law_1182 (by decide) (fun _ => kk m2 h2.2) (fun hne => absurd h2.1.symm hne)
theorem law_sw {L : Nat} {xs : Nat → Int32} (hL : L ≤ 512) (k : Nat) (m : jM) (hI : Inv m) (hk : 8 * k + 8 ≤ L) (kk : ∀ m2, Inv m2 → jE (lB L xs) M_law 1187 (LL k) [] m2) : jE (lB L xs) M_law 27 (LL k) [] m := by
  refine e_aload_n dL_law_27 rfl ?_
  refine e_iload_n dL_law_28 rfl ?_
  refine l_sld dL_law_29 (8 * k) rfl (by omega) ?_
  refine e_bipush (v := 31) dL_law_30 rfl ?_
  refine e_iand dL_law_32 ?_
  generalize xs (8 * k) &&& 31 = w
  by_cases z0 : w = 0
  · subst z0
    exact e_tsIn 156 dL_law_33 (by decide) (by decide) rfl (by decide) (law_0 hL k m hI hk kk)
  by_cases z1 : w = 1
  · subst z1
    exact e_tsIn 199 dL_law_33 (by decide) (by decide) rfl (by decide) (law_1 hL k m hI hk kk)
  by_cases z2 : w = 2
  · subst z2
    exact e_tsIn 242 dL_law_33 (by decide) (by decide) rfl (by decide) (law_2 hL k m hI hk kk)
  by_cases z3 : w = 3
  · subst z3
    exact e_tsIn 305 dL_law_33 (by decide) (by decide) rfl (by decide) (law_3 hL k m hI hk kk)
  by_cases z4 : w = 4
  · subst z4
    exact e_tsIn 328 dL_law_33 (by decide) (by decide) rfl (by decide) (law_4 hL k m hI hk kk)
  by_cases z5 : w = 5
  · subst z5
    exact e_tsIn 351 dL_law_33 (by decide) (by decide) rfl (by decide) (law_5 hL k m hI hk kk)
  by_cases z6 : w = 6
  · subst z6
    exact e_tsIn 364 dL_law_33 (by decide) (by decide) rfl (by decide) (law_6 hL k m hI hk kk)
  by_cases z7 : w = 7
  · subst z7
    exact e_tsIn 377 dL_law_33 (by decide) (by decide) rfl (by decide) (law_7 hL k m hI hk kk)
  by_cases z8 : w = 8
  · subst z8
    exact e_tsIn 420 dL_law_33 (by decide) (by decide) rfl (by decide) (law_8 hL k m hI hk kk)
  by_cases z9 : w = 9
  · subst z9
    exact e_tsIn 463 dL_law_33 (by decide) (by decide) rfl (by decide) (law_9 hL k m hI hk kk)
  by_cases z10 : w = 10
  · subst z10
    exact e_tsIn 476 dL_law_33 (by decide) (by decide) rfl (by decide) (law_10 hL k m hI hk kk)
  by_cases z11 : w = 11
  · subst z11
    exact e_tsIn 509 dL_law_33 (by decide) (by decide) rfl (by decide) (law_11 hL k m hI hk kk)
  by_cases z12 : w = 12
  · subst z12
    exact e_tsIn 542 dL_law_33 (by decide) (by decide) rfl (by decide) (law_12 hL k m hI hk kk)
  by_cases z13 : w = 13
  · subst z13
    exact e_tsIn 595 dL_law_33 (by decide) (by decide) rfl (by decide) (law_13 hL k m hI hk kk)
  by_cases z14 : w = 14
  · subst z14
    exact e_tsIn 648 dL_law_33 (by decide) (by decide) rfl (by decide) (law_14 hL k m hI hk kk)
  by_cases z15 : w = 15
  · subst z15
    exact e_tsIn 701 dL_law_33 (by decide) (by decide) rfl (by decide) (law_15 hL k m hI hk kk)
  by_cases z16 : w = 16
  · subst z16
    exact e_tsIn 744 dL_law_33 (by decide) (by decide) rfl (by decide) (law_16 hL k m hI hk kk)
  by_cases z17 : w = 17
  · subst z17
    exact e_tsIn 819 dL_law_33 (by decide) (by decide) rfl (by decide) (law_17 hL k m hI hk kk)
  by_cases z18 : w = 18
  · subst z18
    exact e_tsIn 906 dL_law_33 (by decide) (by decide) rfl (by decide) (law_18 hL k m hI hk kk)
  by_cases z19 : w = 19
  · subst z19
    exact e_tsIn 993 dL_law_33 (by decide) (by decide) rfl (by decide) (law_19 hL k m hI hk kk)
  by_cases z20 : w = 20
  · subst z20
    exact e_tsIn 1016 dL_law_33 (by decide) (by decide) rfl (by decide) (law_20 hL k m hI hk kk)
  by_cases z21 : w = 21
  · subst z21
    exact e_tsIn 1039 dL_law_33 (by decide) (by decide) rfl (by decide) (law_21 hL k m hI hk kk)
  by_cases z22 : w = 22
  · subst z22
    exact e_tsIn 1062 dL_law_33 (by decide) (by decide) rfl (by decide) (law_22 hL k m hI hk kk)
  by_cases z23 : w = 23
  · subst z23
    exact e_tsIn 1095 dL_law_33 (by decide) (by decide) rfl (by decide) (law_23 hL k m hI hk kk)
  by_cases z24 : w = 24
  · subst z24
    exact e_tsIn 1128 dL_law_33 (by decide) (by decide) rfl (by decide) (law_24 hL k m hI hk kk)
  by_cases z25 : w = 25
  · subst z25
    exact e_tsIn 1151 dL_law_33 (by decide) (by decide) rfl (by decide) (law_25 hL k m hI hk kk)
  by_cases z26 : w = 26
  · subst z26
    exact e_tsIn 1174 dL_law_33 (by decide) (by decide) rfl (by decide) (law_26 hL k m hI hk kk)
  refine e_tsOut 1187 dL_law_33 (l_out (fun n hn => ?_)) (by decide) (kk m hI)
  match n, hn with
  | 0, _ => exact z0
  | 1, _ => exact z1
  | 2, _ => exact z2
  | 3, _ => exact z3
  | 4, _ => exact z4
  | 5, _ => exact z5
  | 6, _ => exact z6
  | 7, _ => exact z7
  | 8, _ => exact z8
  | 9, _ => exact z9
  | 10, _ => exact z10
  | 11, _ => exact z11
  | 12, _ => exact z12
  | 13, _ => exact z13
  | 14, _ => exact z14
  | 15, _ => exact z15
  | 16, _ => exact z16
  | 17, _ => exact z17
  | 18, _ => exact z18
  | 19, _ => exact z19
  | 20, _ => exact z20
  | 21, _ => exact z21
  | 22, _ => exact z22
  | 23, _ => exact z23
  | 24, _ => exact z24
  | 25, _ => exact z25
  | 26, _ => exact z26
  | n + 27, h => exact absurd h (by omega)
theorem law_head {L : Nat} {xs : Nat → Int32} (k : Nat) (hk : k ≤ 65) (m : jM) (kk : L ≤ 512 → 8 * k + 8 ≤ L → jE (lB L xs) M_law 27 (LL k) [] m) : jE (lB L xs) M_law 18 (LL k) [] m := by
  refine e_iload_n dL_law_18 rfl ?_
  refine e_aload_n dL_law_19 rfl ?_
  refine l_slen dL_law_20 (fun hL => ?_)
  refine e_bipush (v := 8) dL_law_21 rfl ?_
  refine e_isub dL_law_23 ?_
  refine e_icmp_gt 1193 dL_law_24 (by decide) (fun _ => ?_) (fun h => kk hL (l_more hL hk h))
  refine e_iconst (v := 1) dL_law_1193 rfl ?_
  exact l_ret dL_law_1194
theorem law_loop {L : Nat} {xs : Nat → Int32} : ∀ (n k : Nat), k + n = 65 → ∀ m, Inv m → jE (lB L xs) M_law 18 (LL k) [] m
  | 0, k, h, m, hI => law_head k (by omega) m (fun hL hk => absurd hk (by omega))
  | n + 1, k, h, m, hI => law_head k (by omega) m (fun hL hk => law_sw hL k m hI hk (fun m2 h2 => by
      refine e_iinc (v := nI (8 * (k + 1))) (L' := LL (k + 1)) dL_law_1187 rfl (j_add rfl (show (8 : Int32) = nI 8 from rfl)) (by decide) (jnl_at (i := 2) rfl) rfl ?_
      exact e_goto 18 dL_law_1190 (by decide) (law_loop n (k + 1) (by omega) m2 h2)))
set_option maxRecDepth 100000 in
theorem gz_rows : gm gz kX4 19 = gm gz kX4 104 ∧ gm gz kX4 97 = gm gz kX4 112 := ⟨rfl, rfl⟩
theorem inv0 : Inv (gm gz kX4) := by
  have hr : ∀ r, r < 8 → gm gz kX4 (2 + 2 * r) 0 = 0 ∧ gm gz kX4 100 r = -1 := by decide +kernel
  have hi : ∀ k, k < 2 → gm gz kX4 (43 + 11 * k) 0 = 0 ∧ gm gz kX4 110 k = 0 := by decide +kernel
  have n0 : ∀ {P : Nat → Prop}, ∀ s, s < 0 → P s := fun s h => absurd h (Nat.not_lt_zero s)
  refine ⟨fun r h => Or.inl (hr r h), ⟨gz_rows.1, 0, by decide, by decide +kernel, by decide +kernel⟩, ⟨0, 0, 0, 0, ⟨by decide, by decide, ⟨by decide +kernel, by decide +kernel, by decide +kernel, by decide +kernel, n0, n0, n0, n0, n0, n0, n0, n0, n0, n0⟩, by decide +kernel, by decide +kernel, Or.inl ⟨by decide +kernel, by decide +kernel, rfl, rfl⟩⟩, by decide, by decide, by decide +kernel, by decide +kernel, by decide +kernel, n0⟩, fun k h => Or.inl (hi k h), ⟨0, by decide, by decide +kernel, by decide +kernel, n0⟩, by decide +kernel, by decide +kernel⟩
theorem gz_fin : (List.range 113).all (gfin (gm gz kX4)) = true := by decide +kernel
