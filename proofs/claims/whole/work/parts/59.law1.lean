/-! THE LAW: one turn, its 32 cases; its loop -/
set_option maxHeartbeats 8000000 in
set_option maxRecDepth 100000 in
theorem law_0 (G : GT) (x bb : Nat → Nat) (b L : Nat) (xs : Nat → Int32) (k : Nat) (hj : 6 * k + 6 ≤ L) (hk : k ≤ 511) (kk : ∀ (I : Nat → Int32) (A : Nat → Nat → Int32) (J : Nat → Int32) (tw : Int64) (N : Nat → Int32) (R : Nat → Nat → Int32) (K : Nat → Nat → Option Nat) (r : Nat → Nat) (S : Nat → Int32) (T : Nat → Nat → Int32) (tl : va_W), XRel G I A N R K r tl → Tr G mLAW room_1 (OLW b L xs) (48 + 12 * (k + 1)) (2690 + 166 * (k + 1)) 1103 [(3, .int (nI (6 * k))), (2, .ref (bb 0)), (1, .ref (x 0)), (0, .ref b)] [] (MW G bb I A J tw ++ XW G x N R K r S T tl)) (I : Nat → Int32) (A : Nat → Nat → Int32) (J : Nat → Int32) (tw : Int64) (N : Nat → Int32) (R : Nat → Nat → Int32) (K : Nat → Nat → Option Nat) (r : Nat → Nat) (S : Nat → Int32) (T : Nat → Nat → Int32) (tl : va_W) (hx : XRel G I A N R K r tl) :
    Tr G mLAW room_1 (OLW b L xs) (48 + 12 * k) (2690 + 166 * k) 176 [(3, .int (nI (6 * k))), (2, .ref (bb 0)), (1, .ref (x 0)), (0, .ref b)] [] (MW G bb I A J tw ++ XW G x N R K r S T tl) := by
  refine z_aload_n d_law_176 2 rfl ?_
  refine z_aload_n d_law_177 3 rfl ?_
  refine z_iload_n d_law_178 0 rfl ?_
  refine z_iconst (v := nI 1) d_law_179 (by decide) ?_
  refine z_iadd d_law_180 ?_
  refine z_sld (6 * k + 1) (lx (by omega) (by decide)) (by omega) d_law_181 ?_
  refine z_aload_n d_law_182 3 rfl ?_
  refine z_iload_n d_law_183 0 rfl ?_
  refine z_iconst (v := nI 2) d_law_184 (by decide) ?_
  refine z_iadd d_law_185 ?_
  refine z_sld (6 * k + 2) (lx (by omega) (by decide)) (by omega) d_law_186 ?_
  refine z_aload_n d_law_187 3 rfl ?_
  refine z_iload_n d_law_188 0 rfl ?_
  refine z_iconst (v := nI 3) d_law_189 (by decide) ?_
  refine z_iadd d_law_190 ?_
  refine z_sld (6 * k + 3) (lx (by omega) (by decide)) (by omega) d_law_191 ?_
  refine z_callVR 0 c_L_13 rfl rfl (t_X11_lay G x N R K r S T tl I A hx (xs (6 * k + 1)) (xs (6 * k + 2)) (xs (6 * k + 3))) rfl rfl (Nat.le_of_ble_eq_true rfl) (rm_law (by decide) (by omega) (by omega)) d_law_192 ?_
  rintro v w1 ⟨rfl, N2, R2, K2, r2, S2, T2, tl2, rfl, hx2⟩
  refine z_swap ?_
  refine z_aload_n d_law_195 1 rfl ?_
  refine z_aload_n d_law_196 3 rfl ?_
  refine z_iload_n d_law_197 0 rfl ?_
  refine z_iconst (v := nI 1) d_law_198 (by decide) ?_
  refine z_iadd d_law_199 ?_
  refine z_sld (6 * k + 1) (lx (by omega) (by decide)) (by omega) d_law_200 ?_
  refine z_aload_n d_law_201 3 rfl ?_
  refine z_iload_n d_law_202 0 rfl ?_
  refine z_iconst (v := nI 2) d_law_203 (by decide) ?_
  refine z_iadd d_law_204 ?_
  refine z_sld (6 * k + 2) (lx (by omega) (by decide)) (by omega) d_law_205 ?_
  refine z_aload_n d_law_206 3 rfl ?_
  refine z_iload_n d_law_207 0 rfl ?_
  refine z_iconst (v := nI 3) d_law_208 (by decide) ?_
  refine z_iadd d_law_209 ?_
  refine z_sld (6 * k + 3) (lx (by omega) (by decide)) (by omega) d_law_210 ?_
  refine z_callVR 0 c_L_17 rfl rfl (t_X12_lay G bb I A J tw (xs (6 * k + 1)) (xs (6 * k + 2)) (xs (6 * k + 3))) rfl rfl (Nat.le_of_ble_eq_true rfl) (rm_law (by decide) (by omega) (by omega)) d_law_211 ?_
  rintro v w1 ⟨rfl, rfl⟩
  refine z_swap ?_
  refine z_icmp_eq d_law_214 (fun _ => ?_) (fun q => absurd rfl q)
  refine z_widen (pc' := 0) (48 + 12 * (k + 1)) (2690 + 166 * (k + 1)) (by omega) (by omega) ?_
  exact kk _ _ _ _ _ _ _ _ _ _ _ hx2
set_option maxHeartbeats 8000000 in
set_option maxRecDepth 100000 in
theorem law_1 (G : GT) (x bb : Nat → Nat) (b L : Nat) (xs : Nat → Int32) (k : Nat) (hj : 6 * k + 6 ≤ L) (hk : k ≤ 511) (kk : ∀ (I : Nat → Int32) (A : Nat → Nat → Int32) (J : Nat → Int32) (tw : Int64) (N : Nat → Int32) (R : Nat → Nat → Int32) (K : Nat → Nat → Option Nat) (r : Nat → Nat) (S : Nat → Int32) (T : Nat → Nat → Int32) (tl : va_W), XRel G I A N R K r tl → Tr G mLAW room_1 (OLW b L xs) (48 + 12 * (k + 1)) (2690 + 166 * (k + 1)) 1103 [(3, .int (nI (6 * k))), (2, .ref (bb 0)), (1, .ref (x 0)), (0, .ref b)] [] (MW G bb I A J tw ++ XW G x N R K r S T tl)) (I : Nat → Int32) (A : Nat → Nat → Int32) (J : Nat → Int32) (tw : Int64) (N : Nat → Int32) (R : Nat → Nat → Int32) (K : Nat → Nat → Option Nat) (r : Nat → Nat) (S : Nat → Int32) (T : Nat → Nat → Int32) (tl : va_W) (hx : XRel G I A N R K r tl) :
    Tr G mLAW room_1 (OLW b L xs) (48 + 12 * k) (2690 + 166 * k) 219 [(3, .int (nI (6 * k))), (2, .ref (bb 0)), (1, .ref (x 0)), (0, .ref b)] [] (MW G bb I A J tw ++ XW G x N R K r S T tl) := by
  refine z_aload_n d_law_219 2 rfl ?_
  refine z_aload_n d_law_220 3 rfl ?_
  refine z_iload_n d_law_221 0 rfl ?_
  refine z_iconst (v := nI 1) d_law_222 (by decide) ?_
  refine z_iadd d_law_223 ?_
  refine z_sld (6 * k + 1) (lx (by omega) (by decide)) (by omega) d_law_224 ?_
  refine z_callVR 0 c_L_18 rfl rfl (t_X11_out G x N R K r S T tl I A hx (xs (6 * k + 1))) rfl rfl (Nat.le_of_ble_eq_true rfl) (rm_law (by decide) (by omega) (by omega)) d_law_225 ?_
  rintro v w1 ⟨rfl, N2, R2, K2, r2, S2, T2, tl2, rfl, hx2⟩
  refine z_swap ?_
  refine z_aload_n d_law_228 1 rfl ?_
  refine z_aload_n d_law_229 3 rfl ?_
  refine z_iload_n d_law_230 0 rfl ?_
  refine z_iconst (v := nI 1) d_law_231 (by decide) ?_
  refine z_iadd d_law_232 ?_
  refine z_sld (6 * k + 1) (lx (by omega) (by decide)) (by omega) d_law_233 ?_
  refine z_callVR 0 c_L_22 rfl rfl (t_X12_out G bb I A J tw (xs (6 * k + 1))) rfl rfl (Nat.le_of_ble_eq_true rfl) (rm_law (by decide) (by omega) (by omega)) d_law_234 ?_
  rintro v w1 ⟨rfl, rfl⟩
  refine z_swap ?_
  refine z_icmp_eq d_law_237 (fun _ => ?_) (fun q => absurd rfl q)
  refine z_widen (pc' := 0) (48 + 12 * (k + 1)) (2690 + 166 * (k + 1)) (by omega) (by omega) ?_
  exact kk _ _ _ _ _ _ _ _ _ _ _ hx2
set_option maxHeartbeats 8000000 in
set_option maxRecDepth 100000 in
theorem law_2 (G : GT) (x bb : Nat → Nat) (b L : Nat) (xs : Nat → Int32) (k : Nat) (hj : 6 * k + 6 ≤ L) (hk : k ≤ 511) (kk : ∀ (I : Nat → Int32) (A : Nat → Nat → Int32) (J : Nat → Int32) (tw : Int64) (N : Nat → Int32) (R : Nat → Nat → Int32) (K : Nat → Nat → Option Nat) (r : Nat → Nat) (S : Nat → Int32) (T : Nat → Nat → Int32) (tl : va_W), XRel G I A N R K r tl → Tr G mLAW room_1 (OLW b L xs) (48 + 12 * (k + 1)) (2690 + 166 * (k + 1)) 1103 [(3, .int (nI (6 * k))), (2, .ref (bb 0)), (1, .ref (x 0)), (0, .ref b)] [] (MW G bb I A J tw ++ XW G x N R K r S T tl)) (I : Nat → Int32) (A : Nat → Nat → Int32) (J : Nat → Int32) (tw : Int64) (N : Nat → Int32) (R : Nat → Nat → Int32) (K : Nat → Nat → Option Nat) (r : Nat → Nat) (S : Nat → Int32) (T : Nat → Nat → Int32) (tl : va_W) (hx : XRel G I A N R K r tl) :
    Tr G mLAW room_1 (OLW b L xs) (48 + 12 * k) (2690 + 166 * k) 242 [(3, .int (nI (6 * k))), (2, .ref (bb 0)), (1, .ref (x 0)), (0, .ref b)] [] (MW G bb I A J tw ++ XW G x N R K r S T tl) := by
  refine z_aload_n d_law_242 2 rfl ?_
  refine z_aload_n d_law_243 3 rfl ?_
  refine z_iload_n d_law_244 0 rfl ?_
  refine z_iconst (v := nI 1) d_law_245 (by decide) ?_
  refine z_iadd d_law_246 ?_
  refine z_sld (6 * k + 1) (lx (by omega) (by decide)) (by omega) d_law_247 ?_
  refine z_callVR 0 c_L_23 rfl rfl (t_X11_hours G x N R K r S T tl I A hx (xs (6 * k + 1))) rfl rfl (Nat.le_of_ble_eq_true rfl) (rm_law (by decide) (by omega) (by omega)) d_law_248 ?_
  rintro v w1 ⟨rfl, N2, R2, K2, r2, S2, T2, tl2, rfl, hx2⟩
  refine z_swap ?_
  refine z_aload_n d_law_251 1 rfl ?_
  refine z_aload_n d_law_252 3 rfl ?_
  refine z_iload_n d_law_253 0 rfl ?_
  refine z_iconst (v := nI 1) d_law_254 (by decide) ?_
  refine z_iadd d_law_255 ?_
  refine z_sld (6 * k + 1) (lx (by omega) (by decide)) (by omega) d_law_256 ?_
  refine z_callVR 0 c_L_26 rfl rfl (t_X12_hours G bb I A J tw (xs (6 * k + 1))) rfl rfl (Nat.le_of_ble_eq_true rfl) (rm_law (by decide) (by omega) (by omega)) d_law_257 ?_
  rintro v w1 ⟨rfl, rfl⟩
  refine z_swap ?_
  refine z_icmp_eq d_law_260 (fun _ => ?_) (fun q => absurd rfl q)
  refine z_widen (pc' := 0) (48 + 12 * (k + 1)) (2690 + 166 * (k + 1)) (by omega) (by omega) ?_
  exact kk _ _ _ _ _ _ _ _ _ _ _ hx2
set_option maxHeartbeats 8000000 in
set_option maxRecDepth 100000 in
theorem law_3 (G : GT) (x bb : Nat → Nat) (b L : Nat) (xs : Nat → Int32) (k : Nat) (hj : 6 * k + 6 ≤ L) (hk : k ≤ 511) (kk : ∀ (I : Nat → Int32) (A : Nat → Nat → Int32) (J : Nat → Int32) (tw : Int64) (N : Nat → Int32) (R : Nat → Nat → Int32) (K : Nat → Nat → Option Nat) (r : Nat → Nat) (S : Nat → Int32) (T : Nat → Nat → Int32) (tl : va_W), XRel G I A N R K r tl → Tr G mLAW room_1 (OLW b L xs) (48 + 12 * (k + 1)) (2690 + 166 * (k + 1)) 1103 [(3, .int (nI (6 * k))), (2, .ref (bb 0)), (1, .ref (x 0)), (0, .ref b)] [] (MW G bb I A J tw ++ XW G x N R K r S T tl)) (I : Nat → Int32) (A : Nat → Nat → Int32) (J : Nat → Int32) (tw : Int64) (N : Nat → Int32) (R : Nat → Nat → Int32) (K : Nat → Nat → Option Nat) (r : Nat → Nat) (S : Nat → Int32) (T : Nat → Nat → Int32) (tl : va_W) (hx : XRel G I A N R K r tl) :
    Tr G mLAW room_1 (OLW b L xs) (48 + 12 * k) (2690 + 166 * k) 265 [(3, .int (nI (6 * k))), (2, .ref (bb 0)), (1, .ref (x 0)), (0, .ref b)] [] (MW G bb I A J tw ++ XW G x N R K r S T tl) := by
  refine z_aload_n d_law_265 2 rfl ?_
  refine z_aload_n d_law_266 3 rfl ?_
  refine z_iload_n d_law_267 0 rfl ?_
  refine z_iconst (v := nI 1) d_law_268 (by decide) ?_
  refine z_iadd d_law_269 ?_
  refine z_sld (6 * k + 1) (lx (by omega) (by decide)) (by omega) d_law_270 ?_
  refine z_callVR 0 c_L_27 rfl rfl (t_X11_green G x N R K r S T tl I A hx (xs (6 * k + 1))) rfl rfl (Nat.le_of_ble_eq_true rfl) (rm_law (by decide) (by omega) (by omega)) d_law_271 ?_
  rintro v w1 ⟨rfl, N2, R2, K2, r2, S2, T2, tl2, rfl, hx2⟩
  refine z_swap ?_
  refine z_aload_n d_law_274 1 rfl ?_
  refine z_aload_n d_law_275 3 rfl ?_
  refine z_iload_n d_law_276 0 rfl ?_
  refine z_iconst (v := nI 1) d_law_277 (by decide) ?_
  refine z_iadd d_law_278 ?_
  refine z_sld (6 * k + 1) (lx (by omega) (by decide)) (by omega) d_law_279 ?_
  refine z_callVR 0 c_L_30 rfl rfl (t_X12_green G bb I A J tw (xs (6 * k + 1))) rfl rfl (Nat.le_of_ble_eq_true rfl) (rm_law (by decide) (by omega) (by omega)) d_law_280 ?_
  rintro v w1 ⟨rfl, rfl⟩
  refine z_swap ?_
  refine z_icmp_eq d_law_283 (fun _ => ?_) (fun q => absurd rfl q)
  refine z_widen (pc' := 0) (48 + 12 * (k + 1)) (2690 + 166 * (k + 1)) (by omega) (by omega) ?_
  exact kk _ _ _ _ _ _ _ _ _ _ _ hx2
set_option maxHeartbeats 8000000 in
set_option maxRecDepth 100000 in
theorem law_4 (G : GT) (x bb : Nat → Nat) (b L : Nat) (xs : Nat → Int32) (k : Nat) (hj : 6 * k + 6 ≤ L) (hk : k ≤ 511) (kk : ∀ (I : Nat → Int32) (A : Nat → Nat → Int32) (J : Nat → Int32) (tw : Int64) (N : Nat → Int32) (R : Nat → Nat → Int32) (K : Nat → Nat → Option Nat) (r : Nat → Nat) (S : Nat → Int32) (T : Nat → Nat → Int32) (tl : va_W), XRel G I A N R K r tl → Tr G mLAW room_1 (OLW b L xs) (48 + 12 * (k + 1)) (2690 + 166 * (k + 1)) 1103 [(3, .int (nI (6 * k))), (2, .ref (bb 0)), (1, .ref (x 0)), (0, .ref b)] [] (MW G bb I A J tw ++ XW G x N R K r S T tl)) (I : Nat → Int32) (A : Nat → Nat → Int32) (J : Nat → Int32) (tw : Int64) (N : Nat → Int32) (R : Nat → Nat → Int32) (K : Nat → Nat → Option Nat) (r : Nat → Nat) (S : Nat → Int32) (T : Nat → Nat → Int32) (tl : va_W) (hx : XRel G I A N R K r tl) :
    Tr G mLAW room_1 (OLW b L xs) (48 + 12 * k) (2690 + 166 * k) 288 [(3, .int (nI (6 * k))), (2, .ref (bb 0)), (1, .ref (x 0)), (0, .ref b)] [] (MW G bb I A J tw ++ XW G x N R K r S T tl) := by
  obtain ⟨t, cd, h4, hOk⟩ := hx.cd
  refine z_aload_n d_law_288 2 rfl ?_
  refine z_aload_n d_law_289 3 rfl ?_
  refine z_iload_n d_law_290 0 rfl ?_
  refine z_iconst (v := nI 1) d_law_291 (by decide) ?_
  refine z_iadd d_law_292 ?_
  refine z_sld (6 * k + 1) (lx (by omega) (by decide)) (by omega) d_law_293 ?_
  refine z_aload_n d_law_294 3 rfl ?_
  refine z_iload_n d_law_295 0 rfl ?_
  refine z_iconst (v := nI 2) d_law_296 (by decide) ?_
  refine z_iadd d_law_297 ?_
  refine z_sld (6 * k + 2) (lx (by omega) (by decide)) (by omega) d_law_298 ?_
  refine z_callVR 0 c_L_31 rfl rfl (t_X11_told G x N R K r S T tl I A hx t cd hOk h4 (xs (6 * k + 1)) (xs (6 * k + 2))) rfl rfl (Nat.le_of_ble_eq_true rfl) (rm_law (by decide) (by omega) (by omega)) d_law_299 ?_
  rintro v w1 ⟨rfl, N2, R2, K2, r2, S2, T2, tl2, rfl, hx2⟩
  refine z_swap ?_
  refine z_aload_n d_law_302 1 rfl ?_
  refine z_aload_n d_law_303 3 rfl ?_
  refine z_iload_n d_law_304 0 rfl ?_
  refine z_iconst (v := nI 1) d_law_305 (by decide) ?_
  refine z_iadd d_law_306 ?_
  refine z_sld (6 * k + 1) (lx (by omega) (by decide)) (by omega) d_law_307 ?_
  refine z_aload_n d_law_308 3 rfl ?_
  refine z_iload_n d_law_309 0 rfl ?_
  refine z_iconst (v := nI 2) d_law_310 (by decide) ?_
  refine z_iadd d_law_311 ?_
  refine z_sld (6 * k + 2) (lx (by omega) (by decide)) (by omega) d_law_312 ?_
  refine z_callVR 0 c_L_35 rfl rfl (t_X12_told G bb I A J tw t cd hOk h4 (xs (6 * k + 1)) (xs (6 * k + 2))) rfl rfl (Nat.le_of_ble_eq_true rfl) (rm_law (by decide) (by omega) (by omega)) d_law_313 ?_
  rintro v w1 ⟨rfl, J2, tw2, rfl⟩
  refine z_swap ?_
  refine z_icmp_eq d_law_316 (fun _ => ?_) (fun q => absurd rfl q)
  refine z_widen (pc' := 0) (48 + 12 * (k + 1)) (2690 + 166 * (k + 1)) (by omega) (by omega) ?_
  exact kk _ _ _ _ _ _ _ _ _ _ _ hx2
set_option maxHeartbeats 8000000 in
set_option maxRecDepth 100000 in
theorem law_5 (G : GT) (x bb : Nat → Nat) (b L : Nat) (xs : Nat → Int32) (k : Nat) (hj : 6 * k + 6 ≤ L) (hk : k ≤ 511) (kk : ∀ (I : Nat → Int32) (A : Nat → Nat → Int32) (J : Nat → Int32) (tw : Int64) (N : Nat → Int32) (R : Nat → Nat → Int32) (K : Nat → Nat → Option Nat) (r : Nat → Nat) (S : Nat → Int32) (T : Nat → Nat → Int32) (tl : va_W), XRel G I A N R K r tl → Tr G mLAW room_1 (OLW b L xs) (48 + 12 * (k + 1)) (2690 + 166 * (k + 1)) 1103 [(3, .int (nI (6 * k))), (2, .ref (bb 0)), (1, .ref (x 0)), (0, .ref b)] [] (MW G bb I A J tw ++ XW G x N R K r S T tl)) (I : Nat → Int32) (A : Nat → Nat → Int32) (J : Nat → Int32) (tw : Int64) (N : Nat → Int32) (R : Nat → Nat → Int32) (K : Nat → Nat → Option Nat) (r : Nat → Nat) (S : Nat → Int32) (T : Nat → Nat → Int32) (tl : va_W) (hx : XRel G I A N R K r tl) :
    Tr G mLAW room_1 (OLW b L xs) (48 + 12 * k) (2690 + 166 * k) 321 [(3, .int (nI (6 * k))), (2, .ref (bb 0)), (1, .ref (x 0)), (0, .ref b)] [] (MW G bb I A J tw ++ XW G x N R K r S T tl) := by
  refine z_aload_n d_law_321 2 rfl ?_
  refine z_aload_n d_law_322 3 rfl ?_
  refine z_iload_n d_law_323 0 rfl ?_
  refine z_iconst (v := nI 1) d_law_324 (by decide) ?_
  refine z_iadd d_law_325 ?_
  refine z_sld (6 * k + 1) (lx (by omega) (by decide)) (by omega) d_law_326 ?_
  refine z_callVR 0 c_L_36 rfl rfl (t_X11_at G x N R K r S T tl I A hx (xs (6 * k + 1))) rfl rfl (Nat.le_of_ble_eq_true rfl) (rm_law (by decide) (by omega) (by omega)) d_law_327 ?_
  rintro v w1 ⟨rfl, N2, R2, K2, r2, S2, T2, tl2, rfl, hx2⟩
  refine z_swap ?_
  refine z_aload_n d_law_330 1 rfl ?_
  refine z_aload_n d_law_331 3 rfl ?_
  refine z_iload_n d_law_332 0 rfl ?_
  refine z_iconst (v := nI 1) d_law_333 (by decide) ?_
  refine z_iadd d_law_334 ?_
  refine z_sld (6 * k + 1) (lx (by omega) (by decide)) (by omega) d_law_335 ?_
  refine z_callVR 0 c_L_39 rfl rfl (t_X12_at G bb I A J tw (xs (6 * k + 1))) rfl rfl (Nat.le_of_ble_eq_true rfl) (rm_law (by decide) (by omega) (by omega)) d_law_336 ?_
  rintro v w1 ⟨rfl, rfl⟩
  refine z_swap ?_
  refine z_icmp_eq d_law_339 (fun _ => ?_) (fun q => absurd rfl q)
  refine z_widen (pc' := 0) (48 + 12 * (k + 1)) (2690 + 166 * (k + 1)) (by omega) (by omega) ?_
  exact kk _ _ _ _ _ _ _ _ _ _ _ hx2
set_option maxHeartbeats 8000000 in
set_option maxRecDepth 100000 in
theorem law_6 (G : GT) (x bb : Nat → Nat) (b L : Nat) (xs : Nat → Int32) (k : Nat) (hj : 6 * k + 6 ≤ L) (hk : k ≤ 511) (kk : ∀ (I : Nat → Int32) (A : Nat → Nat → Int32) (J : Nat → Int32) (tw : Int64) (N : Nat → Int32) (R : Nat → Nat → Int32) (K : Nat → Nat → Option Nat) (r : Nat → Nat) (S : Nat → Int32) (T : Nat → Nat → Int32) (tl : va_W), XRel G I A N R K r tl → Tr G mLAW room_1 (OLW b L xs) (48 + 12 * (k + 1)) (2690 + 166 * (k + 1)) 1103 [(3, .int (nI (6 * k))), (2, .ref (bb 0)), (1, .ref (x 0)), (0, .ref b)] [] (MW G bb I A J tw ++ XW G x N R K r S T tl)) (I : Nat → Int32) (A : Nat → Nat → Int32) (J : Nat → Int32) (tw : Int64) (N : Nat → Int32) (R : Nat → Nat → Int32) (K : Nat → Nat → Option Nat) (r : Nat → Nat) (S : Nat → Int32) (T : Nat → Nat → Int32) (tl : va_W) (hx : XRel G I A N R K r tl) :
    Tr G mLAW room_1 (OLW b L xs) (48 + 12 * k) (2690 + 166 * k) 344 [(3, .int (nI (6 * k))), (2, .ref (bb 0)), (1, .ref (x 0)), (0, .ref b)] [] (MW G bb I A J tw ++ XW G x N R K r S T tl) := by
  obtain ⟨m, hm0, ⟨hm1, m2, m3, hm4, hm5⟩, hm6, ⟨q, q1, q2, hq3, hq4⟩, hm7, hm8⟩ := id hx
  refine z_aload_n d_law_344 2 rfl ?_
  refine z_aload_n d_law_345 3 rfl ?_
  refine z_iload_n d_law_346 0 rfl ?_
  refine z_iconst (v := nI 1) d_law_347 (by decide) ?_
  refine z_iadd d_law_348 ?_
  refine z_sld (6 * k + 1) (lx (by omega) (by decide)) (by omega) d_law_349 ?_
  refine z_aload_n d_law_350 3 rfl ?_
  refine z_iload_n d_law_351 0 rfl ?_
  refine z_iconst (v := nI 2) d_law_352 (by decide) ?_
  refine z_iadd d_law_353 ?_
  refine z_sld (6 * k + 2) (lx (by omega) (by decide)) (by omega) d_law_354 ?_
  refine z_i2l d_law_355 ?_
  refine z_bipush (v := 32) d_law_356 (by decide) ?_
  refine z_lshl d_law_358 ?_
  refine z_aload_n d_law_359 3 rfl ?_
  refine z_iload_n d_law_360 0 rfl ?_
  refine z_iconst (v := nI 3) d_law_361 (by decide) ?_
  refine z_iadd d_law_362 ?_
  refine z_sld (6 * k + 3) (lx (by omega) (by decide)) (by omega) d_law_363 ?_
  refine z_i2l d_law_364 ?_
  refine z_ldc2 d_law_365 w_1449 ?_
  refine z_land d_law_368 ?_
  refine z_lor d_law_369 ?_
  refine z_callVR 0 c_L_42 rfl rfl (t_X11_feed G x N R K r S T tl I A hx (xs (6 * k + 1)) ((((xs (6 * k + 2)).toInt64) <<< ((32 : Int32).toInt64 &&& 63)) ||| (((xs (6 * k + 3)).toInt64) &&& 4294967295))) rfl rfl (Nat.le_of_ble_eq_true rfl) (rm_law (by decide) (by omega) (by omega)) d_law_370 ?_
  rintro v w1 ⟨rfl, N2, R2, K2, r2, S2, T2, tl2, rfl, hx2⟩
  refine z_swap ?_
  refine z_aload_n d_law_373 1 rfl ?_
  refine z_aload_n d_law_374 3 rfl ?_
  refine z_iload_n d_law_375 0 rfl ?_
  refine z_iconst (v := nI 1) d_law_376 (by decide) ?_
  refine z_iadd d_law_377 ?_
  refine z_sld (6 * k + 1) (lx (by omega) (by decide)) (by omega) d_law_378 ?_
  refine z_aload_n d_law_379 3 rfl ?_
  refine z_iload_n d_law_380 0 rfl ?_
  refine z_iconst (v := nI 2) d_law_381 (by decide) ?_
  refine z_iadd d_law_382 ?_
  refine z_sld (6 * k + 2) (lx (by omega) (by decide)) (by omega) d_law_383 ?_
  refine z_i2l d_law_384 ?_
  refine z_bipush (v := 32) d_law_385 (by decide) ?_
  refine z_lshl d_law_387 ?_
  refine z_aload_n d_law_388 3 rfl ?_
  refine z_iload_n d_law_389 0 rfl ?_
  refine z_iconst (v := nI 3) d_law_390 (by decide) ?_
  refine z_iadd d_law_391 ?_
  refine z_sld (6 * k + 3) (lx (by omega) (by decide)) (by omega) d_law_392 ?_
  refine z_i2l d_law_393 ?_
  refine z_ldc2 d_law_394 w_1449 ?_
  refine z_land d_law_397 ?_
  refine z_lor d_law_398 ?_
  refine z_callVR 0 c_L_46 rfl rfl (t_X12_feed G bb I A J tw (xs (6 * k + 1)) ((((xs (6 * k + 2)).toInt64) <<< ((32 : Int32).toInt64 &&& 63)) ||| (((xs (6 * k + 3)).toInt64) &&& 4294967295)) q q1 q2) rfl rfl (Nat.le_of_ble_eq_true rfl) (rm_law (by decide) (by omega) (by omega)) d_law_399 ?_
  rintro v w1 ⟨rfl, rfl⟩
  refine z_swap ?_
  refine z_icmp_eq d_law_402 (fun _ => ?_) (fun q => absurd rfl q)
  refine z_widen (pc' := 0) (48 + 12 * (k + 1)) (2690 + 166 * (k + 1)) (by omega) (by omega) ?_
  exact kk _ _ _ _ _ _ _ _ _ _ _ hx2
set_option maxHeartbeats 8000000 in
set_option maxRecDepth 100000 in
theorem law_7 (G : GT) (x bb : Nat → Nat) (b L : Nat) (xs : Nat → Int32) (k : Nat) (hj : 6 * k + 6 ≤ L) (hk : k ≤ 511) (kk : ∀ (I : Nat → Int32) (A : Nat → Nat → Int32) (J : Nat → Int32) (tw : Int64) (N : Nat → Int32) (R : Nat → Nat → Int32) (K : Nat → Nat → Option Nat) (r : Nat → Nat) (S : Nat → Int32) (T : Nat → Nat → Int32) (tl : va_W), XRel G I A N R K r tl → Tr G mLAW room_1 (OLW b L xs) (48 + 12 * (k + 1)) (2690 + 166 * (k + 1)) 1103 [(3, .int (nI (6 * k))), (2, .ref (bb 0)), (1, .ref (x 0)), (0, .ref b)] [] (MW G bb I A J tw ++ XW G x N R K r S T tl)) (I : Nat → Int32) (A : Nat → Nat → Int32) (J : Nat → Int32) (tw : Int64) (N : Nat → Int32) (R : Nat → Nat → Int32) (K : Nat → Nat → Option Nat) (r : Nat → Nat) (S : Nat → Int32) (T : Nat → Nat → Int32) (tl : va_W) (hx : XRel G I A N R K r tl) :
    Tr G mLAW room_1 (OLW b L xs) (48 + 12 * k) (2690 + 166 * k) 407 [(3, .int (nI (6 * k))), (2, .ref (bb 0)), (1, .ref (x 0)), (0, .ref b)] [] (MW G bb I A J tw ++ XW G x N R K r S T tl) := by
  obtain ⟨m, hm0, ⟨hm1, m2, m3, hm4, hm5⟩, hm6, ⟨q, q1, q2, hq3, hq4⟩, hm7, hm8⟩ := id hx
  have hB : ∀ i, i < q → 0 ≤ (A 5 i).toInt := fun i hi => (hq4 i hi).2.1
  refine z_aload_n d_law_407 2 rfl ?_
  refine z_callVR 0 c_L_47 rfl rfl (t_X11_text G x N R K r S T tl I A hx m q m2 q1 m3 q2) rfl rfl (Nat.le_of_ble_eq_true rfl) (rm_law (by decide) (by omega) (by omega)) d_law_408 ?_
  rintro v w1 ⟨rfl, N2, R2, K2, r2, S2, T2, tl2, rfl, hx2⟩
  refine z_swap ?_
  refine z_aload_n d_law_411 1 rfl ?_
  refine z_callVR 0 c_L_51 rfl rfl (t_X12_text G bb I A J tw m q m2 q1 m3 q2 hB) rfl rfl (Nat.le_of_ble_eq_true rfl) (rm_law (by decide) (by omega) (by omega)) d_law_412 ?_
  rintro v w1 ⟨rfl, J2, tw2, rfl⟩
  refine z_swap ?_
  refine z_icmp_eq d_law_415 (fun _ => ?_) (fun q => absurd rfl q)
  refine z_widen (pc' := 0) (48 + 12 * (k + 1)) (2690 + 166 * (k + 1)) (by omega) (by omega) ?_
  exact kk _ _ _ _ _ _ _ _ _ _ _ hx2
set_option maxHeartbeats 8000000 in
set_option maxRecDepth 100000 in
theorem law_8 (G : GT) (x bb : Nat → Nat) (b L : Nat) (xs : Nat → Int32) (k : Nat) (hj : 6 * k + 6 ≤ L) (hk : k ≤ 511) (kk : ∀ (I : Nat → Int32) (A : Nat → Nat → Int32) (J : Nat → Int32) (tw : Int64) (N : Nat → Int32) (R : Nat → Nat → Int32) (K : Nat → Nat → Option Nat) (r : Nat → Nat) (S : Nat → Int32) (T : Nat → Nat → Int32) (tl : va_W), XRel G I A N R K r tl → Tr G mLAW room_1 (OLW b L xs) (48 + 12 * (k + 1)) (2690 + 166 * (k + 1)) 1103 [(3, .int (nI (6 * k))), (2, .ref (bb 0)), (1, .ref (x 0)), (0, .ref b)] [] (MW G bb I A J tw ++ XW G x N R K r S T tl)) (I : Nat → Int32) (A : Nat → Nat → Int32) (J : Nat → Int32) (tw : Int64) (N : Nat → Int32) (R : Nat → Nat → Int32) (K : Nat → Nat → Option Nat) (r : Nat → Nat) (S : Nat → Int32) (T : Nat → Nat → Int32) (tl : va_W) (hx : XRel G I A N R K r tl) :
    Tr G mLAW room_1 (OLW b L xs) (48 + 12 * k) (2690 + 166 * k) 420 [(3, .int (nI (6 * k))), (2, .ref (bb 0)), (1, .ref (x 0)), (0, .ref b)] [] (MW G bb I A J tw ++ XW G x N R K r S T tl) := by
  refine z_aload_n d_law_420 2 rfl ?_
  refine z_aload_n d_law_421 3 rfl ?_
  refine z_iload_n d_law_422 0 rfl ?_
  refine z_iconst (v := nI 1) d_law_423 (by decide) ?_
  refine z_iadd d_law_424 ?_
  refine z_sld (6 * k + 1) (lx (by omega) (by decide)) (by omega) d_law_425 ?_
  refine z_callVR 0 c_L_52 rfl rfl (t_X11_force G x N R K r S T tl I A hx (xs (6 * k + 1))) rfl rfl (Nat.le_of_ble_eq_true rfl) (rm_law (by decide) (by omega) (by omega)) d_law_426 ?_
  rintro v w1 ⟨rfl, N2, R2, K2, r2, S2, T2, tl2, rfl, hx2⟩
  refine z_swap ?_
  refine z_aload_n d_law_429 1 rfl ?_
  refine z_aload_n d_law_430 3 rfl ?_
  refine z_iload_n d_law_431 0 rfl ?_
  refine z_iconst (v := nI 1) d_law_432 (by decide) ?_
  refine z_iadd d_law_433 ?_
  refine z_sld (6 * k + 1) (lx (by omega) (by decide)) (by omega) d_law_434 ?_
  refine z_callVR 0 c_L_55 rfl rfl (t_X12_force G bb I A J tw (xs (6 * k + 1))) rfl rfl (Nat.le_of_ble_eq_true rfl) (rm_law (by decide) (by omega) (by omega)) d_law_435 ?_
  rintro v w1 ⟨rfl, rfl⟩
  refine z_swap ?_
  refine z_icmp_eq d_law_438 (fun _ => ?_) (fun q => absurd rfl q)
  refine z_widen (pc' := 0) (48 + 12 * (k + 1)) (2690 + 166 * (k + 1)) (by omega) (by omega) ?_
  exact kk _ _ _ _ _ _ _ _ _ _ _ hx2
set_option maxHeartbeats 8000000 in
set_option maxRecDepth 100000 in
theorem law_9 (G : GT) (x bb : Nat → Nat) (b L : Nat) (xs : Nat → Int32) (k : Nat) (hj : 6 * k + 6 ≤ L) (hk : k ≤ 511) (kk : ∀ (I : Nat → Int32) (A : Nat → Nat → Int32) (J : Nat → Int32) (tw : Int64) (N : Nat → Int32) (R : Nat → Nat → Int32) (K : Nat → Nat → Option Nat) (r : Nat → Nat) (S : Nat → Int32) (T : Nat → Nat → Int32) (tl : va_W), XRel G I A N R K r tl → Tr G mLAW room_1 (OLW b L xs) (48 + 12 * (k + 1)) (2690 + 166 * (k + 1)) 1103 [(3, .int (nI (6 * k))), (2, .ref (bb 0)), (1, .ref (x 0)), (0, .ref b)] [] (MW G bb I A J tw ++ XW G x N R K r S T tl)) (I : Nat → Int32) (A : Nat → Nat → Int32) (J : Nat → Int32) (tw : Int64) (N : Nat → Int32) (R : Nat → Nat → Int32) (K : Nat → Nat → Option Nat) (r : Nat → Nat) (S : Nat → Int32) (T : Nat → Nat → Int32) (tl : va_W) (hx : XRel G I A N R K r tl) :
    Tr G mLAW room_1 (OLW b L xs) (48 + 12 * k) (2690 + 166 * k) 443 [(3, .int (nI (6 * k))), (2, .ref (bb 0)), (1, .ref (x 0)), (0, .ref b)] [] (MW G bb I A J tw ++ XW G x N R K r S T tl) := by
  obtain ⟨t, cd, h4, hOk⟩ := hx.cd
  refine z_aload_n d_law_443 2 rfl ?_
  refine z_aload_n d_law_444 3 rfl ?_
  refine z_iload_n d_law_445 0 rfl ?_
  refine z_iconst (v := nI 1) d_law_446 (by decide) ?_
  refine z_iadd d_law_447 ?_
  refine z_sld (6 * k + 1) (lx (by omega) (by decide)) (by omega) d_law_448 ?_
  refine z_aload_n d_law_449 3 rfl ?_
  refine z_iload_n d_law_450 0 rfl ?_
  refine z_iconst (v := nI 2) d_law_451 (by decide) ?_
  refine z_iadd d_law_452 ?_
  refine z_sld (6 * k + 2) (lx (by omega) (by decide)) (by omega) d_law_453 ?_
  refine z_aload_n d_law_454 3 rfl ?_
  refine z_iload_n d_law_455 0 rfl ?_
  refine z_iconst (v := nI 3) d_law_456 (by decide) ?_
  refine z_iadd d_law_457 ?_
  refine z_sld (6 * k + 3) (lx (by omega) (by decide)) (by omega) d_law_458 ?_
  refine z_callVR 0 c_L_56 rfl rfl (t_X11_pull G x N R K r S T tl I A hx t cd hOk h4 (xs (6 * k + 1)) (xs (6 * k + 2)) (xs (6 * k + 3))) rfl rfl (Nat.le_of_ble_eq_true rfl) (rm_law (by decide) (by omega) (by omega)) d_law_459 ?_
  rintro v w1 ⟨rfl, N2, R2, K2, r2, S2, T2, tl2, rfl, hx2⟩
  refine z_swap ?_
  refine z_aload_n d_law_462 1 rfl ?_
  refine z_aload_n d_law_463 3 rfl ?_
  refine z_iload_n d_law_464 0 rfl ?_
  refine z_iconst (v := nI 1) d_law_465 (by decide) ?_
  refine z_iadd d_law_466 ?_
  refine z_sld (6 * k + 1) (lx (by omega) (by decide)) (by omega) d_law_467 ?_
  refine z_aload_n d_law_468 3 rfl ?_
  refine z_iload_n d_law_469 0 rfl ?_
  refine z_iconst (v := nI 2) d_law_470 (by decide) ?_
  refine z_iadd d_law_471 ?_
  refine z_sld (6 * k + 2) (lx (by omega) (by decide)) (by omega) d_law_472 ?_
  refine z_aload_n d_law_473 3 rfl ?_
  refine z_iload_n d_law_474 0 rfl ?_
  refine z_iconst (v := nI 3) d_law_475 (by decide) ?_
  refine z_iadd d_law_476 ?_
  refine z_sld (6 * k + 3) (lx (by omega) (by decide)) (by omega) d_law_477 ?_
  refine z_callVR 0 c_L_59 rfl rfl (t_X12_pull G bb I A J tw t cd hOk h4 (xs (6 * k + 1)) (xs (6 * k + 2)) (xs (6 * k + 3))) rfl rfl (Nat.le_of_ble_eq_true rfl) (rm_law (by decide) (by omega) (by omega)) d_law_478 ?_
  rintro v w1 ⟨rfl, J2, tw2, rfl⟩
  refine z_swap ?_
  refine z_icmp_eq d_law_481 (fun _ => ?_) (fun q => absurd rfl q)
  refine z_widen (pc' := 0) (48 + 12 * (k + 1)) (2690 + 166 * (k + 1)) (by omega) (by omega) ?_
  exact kk _ _ _ _ _ _ _ _ _ _ _ hx2
set_option maxHeartbeats 8000000 in
set_option maxRecDepth 100000 in
theorem law_10 (G : GT) (x bb : Nat → Nat) (b L : Nat) (xs : Nat → Int32) (k : Nat) (hj : 6 * k + 6 ≤ L) (hk : k ≤ 511) (kk : ∀ (I : Nat → Int32) (A : Nat → Nat → Int32) (J : Nat → Int32) (tw : Int64) (N : Nat → Int32) (R : Nat → Nat → Int32) (K : Nat → Nat → Option Nat) (r : Nat → Nat) (S : Nat → Int32) (T : Nat → Nat → Int32) (tl : va_W), XRel G I A N R K r tl → Tr G mLAW room_1 (OLW b L xs) (48 + 12 * (k + 1)) (2690 + 166 * (k + 1)) 1103 [(3, .int (nI (6 * k))), (2, .ref (bb 0)), (1, .ref (x 0)), (0, .ref b)] [] (MW G bb I A J tw ++ XW G x N R K r S T tl)) (I : Nat → Int32) (A : Nat → Nat → Int32) (J : Nat → Int32) (tw : Int64) (N : Nat → Int32) (R : Nat → Nat → Int32) (K : Nat → Nat → Option Nat) (r : Nat → Nat) (S : Nat → Int32) (T : Nat → Nat → Int32) (tl : va_W) (hx : XRel G I A N R K r tl) :
    Tr G mLAW room_1 (OLW b L xs) (48 + 12 * k) (2690 + 166 * k) 486 [(3, .int (nI (6 * k))), (2, .ref (bb 0)), (1, .ref (x 0)), (0, .ref b)] [] (MW G bb I A J tw ++ XW G x N R K r S T tl) := by
  obtain ⟨t, cd, h4, hOk⟩ := hx.cd
  refine z_aload_n d_law_486 2 rfl ?_
  refine z_aload_n d_law_487 3 rfl ?_
  refine z_iload_n d_law_488 0 rfl ?_
  refine z_iconst (v := nI 1) d_law_489 (by decide) ?_
  refine z_iadd d_law_490 ?_
  refine z_sld (6 * k + 1) (lx (by omega) (by decide)) (by omega) d_law_491 ?_
  refine z_aload_n d_law_492 3 rfl ?_
  refine z_iload_n d_law_493 0 rfl ?_
  refine z_iconst (v := nI 2) d_law_494 (by decide) ?_
  refine z_iadd d_law_495 ?_
  refine z_sld (6 * k + 2) (lx (by omega) (by decide)) (by omega) d_law_496 ?_
  refine z_callVR 0 c_L_60 rfl rfl (t_X11_pulled G x N R K r S T tl I A hx t cd hOk h4 (xs (6 * k + 1)) (xs (6 * k + 2))) rfl rfl (Nat.le_of_ble_eq_true rfl) (rm_law (by decide) (by omega) (by omega)) d_law_497 ?_
  rintro v w1 ⟨rfl, N2, R2, K2, r2, S2, T2, tl2, rfl, hx2⟩
  refine z_swap ?_
  refine z_aload_n d_law_500 1 rfl ?_
  refine z_aload_n d_law_501 3 rfl ?_
  refine z_iload_n d_law_502 0 rfl ?_
  refine z_iconst (v := nI 1) d_law_503 (by decide) ?_
  refine z_iadd d_law_504 ?_
  refine z_sld (6 * k + 1) (lx (by omega) (by decide)) (by omega) d_law_505 ?_
  refine z_aload_n d_law_506 3 rfl ?_
  refine z_iload_n d_law_507 0 rfl ?_
  refine z_iconst (v := nI 2) d_law_508 (by decide) ?_
  refine z_iadd d_law_509 ?_
  refine z_sld (6 * k + 2) (lx (by omega) (by decide)) (by omega) d_law_510 ?_
  refine z_callVR 0 c_L_63 rfl rfl (t_X12_pulled G bb I A J tw t cd hOk h4 (xs (6 * k + 1)) (xs (6 * k + 2))) rfl rfl (Nat.le_of_ble_eq_true rfl) (rm_law (by decide) (by omega) (by omega)) d_law_511 ?_
  rintro v w1 ⟨rfl, J2, tw2, rfl⟩
  refine z_swap ?_
  refine z_icmp_eq d_law_514 (fun _ => ?_) (fun q => absurd rfl q)
  refine z_widen (pc' := 0) (48 + 12 * (k + 1)) (2690 + 166 * (k + 1)) (by omega) (by omega) ?_
  exact kk _ _ _ _ _ _ _ _ _ _ _ hx2
set_option maxHeartbeats 8000000 in
set_option maxRecDepth 100000 in
theorem law_11 (G : GT) (x bb : Nat → Nat) (b L : Nat) (xs : Nat → Int32) (k : Nat) (hj : 6 * k + 6 ≤ L) (hk : k ≤ 511) (kk : ∀ (I : Nat → Int32) (A : Nat → Nat → Int32) (J : Nat → Int32) (tw : Int64) (N : Nat → Int32) (R : Nat → Nat → Int32) (K : Nat → Nat → Option Nat) (r : Nat → Nat) (S : Nat → Int32) (T : Nat → Nat → Int32) (tl : va_W), XRel G I A N R K r tl → Tr G mLAW room_1 (OLW b L xs) (48 + 12 * (k + 1)) (2690 + 166 * (k + 1)) 1103 [(3, .int (nI (6 * k))), (2, .ref (bb 0)), (1, .ref (x 0)), (0, .ref b)] [] (MW G bb I A J tw ++ XW G x N R K r S T tl)) (I : Nat → Int32) (A : Nat → Nat → Int32) (J : Nat → Int32) (tw : Int64) (N : Nat → Int32) (R : Nat → Nat → Int32) (K : Nat → Nat → Option Nat) (r : Nat → Nat) (S : Nat → Int32) (T : Nat → Nat → Int32) (tl : va_W) (hx : XRel G I A N R K r tl) :
    Tr G mLAW room_1 (OLW b L xs) (48 + 12 * k) (2690 + 166 * k) 519 [(3, .int (nI (6 * k))), (2, .ref (bb 0)), (1, .ref (x 0)), (0, .ref b)] [] (MW G bb I A J tw ++ XW G x N R K r S T tl) := by
  refine z_aload_n d_law_519 2 rfl ?_
  refine z_callVR 0 c_L_64 rfl rfl (t_X11_falls G x N R K r S T tl I A hx) rfl rfl (Nat.le_of_ble_eq_true rfl) (rm_law (by decide) (by omega) (by omega)) d_law_520 ?_
  rintro v w1 ⟨rfl, N2, R2, K2, r2, S2, T2, tl2, rfl, hx2⟩
  refine z_swap ?_
  refine z_aload_n d_law_523 1 rfl ?_
  refine z_callVR 0 c_L_67 rfl rfl (t_X12_falls G bb I A J tw) rfl rfl (Nat.le_of_ble_eq_true rfl) (rm_law (by decide) (by omega) (by omega)) d_law_524 ?_
  rintro v w1 ⟨rfl, rfl⟩
  refine z_swap ?_
  refine z_icmp_eq d_law_527 (fun _ => ?_) (fun q => absurd rfl q)
  refine z_widen (pc' := 0) (48 + 12 * (k + 1)) (2690 + 166 * (k + 1)) (by omega) (by omega) ?_
  exact kk _ _ _ _ _ _ _ _ _ _ _ hx2
set_option maxHeartbeats 8000000 in
set_option maxRecDepth 100000 in
theorem law_12 (G : GT) (x bb : Nat → Nat) (b L : Nat) (xs : Nat → Int32) (k : Nat) (hj : 6 * k + 6 ≤ L) (hk : k ≤ 511) (kk : ∀ (I : Nat → Int32) (A : Nat → Nat → Int32) (J : Nat → Int32) (tw : Int64) (N : Nat → Int32) (R : Nat → Nat → Int32) (K : Nat → Nat → Option Nat) (r : Nat → Nat) (S : Nat → Int32) (T : Nat → Nat → Int32) (tl : va_W), XRel G I A N R K r tl → Tr G mLAW room_1 (OLW b L xs) (48 + 12 * (k + 1)) (2690 + 166 * (k + 1)) 1103 [(3, .int (nI (6 * k))), (2, .ref (bb 0)), (1, .ref (x 0)), (0, .ref b)] [] (MW G bb I A J tw ++ XW G x N R K r S T tl)) (I : Nat → Int32) (A : Nat → Nat → Int32) (J : Nat → Int32) (tw : Int64) (N : Nat → Int32) (R : Nat → Nat → Int32) (K : Nat → Nat → Option Nat) (r : Nat → Nat) (S : Nat → Int32) (T : Nat → Nat → Int32) (tl : va_W) (hx : XRel G I A N R K r tl) :
    Tr G mLAW room_1 (OLW b L xs) (48 + 12 * k) (2690 + 166 * k) 532 [(3, .int (nI (6 * k))), (2, .ref (bb 0)), (1, .ref (x 0)), (0, .ref b)] [] (MW G bb I A J tw ++ XW G x N R K r S T tl) := by
  obtain ⟨t, cd, h4, hOk⟩ := hx.cd
  refine z_aload_n d_law_532 2 rfl ?_
  refine z_aload_n d_law_533 3 rfl ?_
  refine z_iload_n d_law_534 0 rfl ?_
  refine z_iconst (v := nI 1) d_law_535 (by decide) ?_
  refine z_iadd d_law_536 ?_
  refine z_sld (6 * k + 1) (lx (by omega) (by decide)) (by omega) d_law_537 ?_
  refine z_aload_n d_law_538 3 rfl ?_
  refine z_iload_n d_law_539 0 rfl ?_
  refine z_iconst (v := nI 2) d_law_540 (by decide) ?_
  refine z_iadd d_law_541 ?_
  refine z_sld (6 * k + 2) (lx (by omega) (by decide)) (by omega) d_law_542 ?_
  refine z_callVR 0 c_L_68 rfl rfl (t_X11_least G x N R K r S T tl I A hx t cd hOk h4 (xs (6 * k + 1)) (xs (6 * k + 2))) rfl rfl (Nat.le_of_ble_eq_true rfl) (rm_law (by decide) (by omega) (by omega)) d_law_543 ?_
  rintro v w1 ⟨rfl, N2, R2, K2, r2, S2, T2, tl2, rfl, hx2⟩
  refine z_swap ?_
  refine z_aload_n d_law_546 1 rfl ?_
  refine z_aload_n d_law_547 3 rfl ?_
  refine z_iload_n d_law_548 0 rfl ?_
  refine z_iconst (v := nI 1) d_law_549 (by decide) ?_
  refine z_iadd d_law_550 ?_
  refine z_sld (6 * k + 1) (lx (by omega) (by decide)) (by omega) d_law_551 ?_
  refine z_aload_n d_law_552 3 rfl ?_
  refine z_iload_n d_law_553 0 rfl ?_
  refine z_iconst (v := nI 2) d_law_554 (by decide) ?_
  refine z_iadd d_law_555 ?_
  refine z_sld (6 * k + 2) (lx (by omega) (by decide)) (by omega) d_law_556 ?_
  refine z_callVR 0 c_L_71 rfl rfl (t_X12_least G bb I A J tw t cd hOk h4 (xs (6 * k + 1)) (xs (6 * k + 2))) rfl rfl (Nat.le_of_ble_eq_true rfl) (rm_law (by decide) (by omega) (by omega)) d_law_557 ?_
  rintro v w1 ⟨rfl, J2, tw2, rfl⟩
  refine z_swap ?_
  refine z_icmp_eq d_law_560 (fun _ => ?_) (fun q => absurd rfl q)
  refine z_widen (pc' := 0) (48 + 12 * (k + 1)) (2690 + 166 * (k + 1)) (by omega) (by omega) ?_
  exact kk _ _ _ _ _ _ _ _ _ _ _ hx2
set_option maxHeartbeats 8000000 in
set_option maxRecDepth 100000 in
theorem law_13 (G : GT) (x bb : Nat → Nat) (b L : Nat) (xs : Nat → Int32) (k : Nat) (hj : 6 * k + 6 ≤ L) (hk : k ≤ 511) (kk : ∀ (I : Nat → Int32) (A : Nat → Nat → Int32) (J : Nat → Int32) (tw : Int64) (N : Nat → Int32) (R : Nat → Nat → Int32) (K : Nat → Nat → Option Nat) (r : Nat → Nat) (S : Nat → Int32) (T : Nat → Nat → Int32) (tl : va_W), XRel G I A N R K r tl → Tr G mLAW room_1 (OLW b L xs) (48 + 12 * (k + 1)) (2690 + 166 * (k + 1)) 1103 [(3, .int (nI (6 * k))), (2, .ref (bb 0)), (1, .ref (x 0)), (0, .ref b)] [] (MW G bb I A J tw ++ XW G x N R K r S T tl)) (I : Nat → Int32) (A : Nat → Nat → Int32) (J : Nat → Int32) (tw : Int64) (N : Nat → Int32) (R : Nat → Nat → Int32) (K : Nat → Nat → Option Nat) (r : Nat → Nat) (S : Nat → Int32) (T : Nat → Nat → Int32) (tl : va_W) (hx : XRel G I A N R K r tl) :
    Tr G mLAW room_1 (OLW b L xs) (48 + 12 * k) (2690 + 166 * k) 565 [(3, .int (nI (6 * k))), (2, .ref (bb 0)), (1, .ref (x 0)), (0, .ref b)] [] (MW G bb I A J tw ++ XW G x N R K r S T tl) := by
  obtain ⟨t, cd, h4, hOk⟩ := hx.cd
  refine z_aload_n d_law_565 2 rfl ?_
  refine z_aload_n d_law_566 3 rfl ?_
  refine z_iload_n d_law_567 0 rfl ?_
  refine z_iconst (v := nI 1) d_law_568 (by decide) ?_
  refine z_iadd d_law_569 ?_
  refine z_sld (6 * k + 1) (lx (by omega) (by decide)) (by omega) d_law_570 ?_
  refine z_callVR 0 c_L_72 rfl rfl (t_X11_good G x N R K r S T tl I A hx t cd hOk h4 (xs (6 * k + 1))) rfl rfl (Nat.le_of_ble_eq_true rfl) (rm_law (by decide) (by omega) (by omega)) d_law_571 ?_
  rintro v w1 ⟨rfl, N2, R2, K2, r2, S2, T2, tl2, rfl, hx2⟩
  refine z_swap ?_
  refine z_aload_n d_law_574 1 rfl ?_
  refine z_aload_n d_law_575 3 rfl ?_
  refine z_iload_n d_law_576 0 rfl ?_
  refine z_iconst (v := nI 1) d_law_577 (by decide) ?_
  refine z_iadd d_law_578 ?_
  refine z_sld (6 * k + 1) (lx (by omega) (by decide)) (by omega) d_law_579 ?_
  refine z_callVR 0 c_L_76 rfl rfl (t_X12_good G bb I A J tw t cd hOk h4 (xs (6 * k + 1))) rfl rfl (Nat.le_of_ble_eq_true rfl) (rm_law (by decide) (by omega) (by omega)) d_law_580 ?_
  rintro v w1 ⟨rfl, J2, tw2, rfl⟩
  refine z_swap ?_
  refine z_lcmp d_law_583 ?_
  refine z_if_eq d_law_584 (fun _ => ?_) (fun q => absurd (lg_self _) q)
  refine z_widen (pc' := 0) (48 + 12 * (k + 1)) (2690 + 166 * (k + 1)) (by omega) (by omega) ?_
  exact kk _ _ _ _ _ _ _ _ _ _ _ hx2
set_option maxHeartbeats 8000000 in
set_option maxRecDepth 100000 in
theorem law_14 (G : GT) (x bb : Nat → Nat) (b L : Nat) (xs : Nat → Int32) (k : Nat) (hj : 6 * k + 6 ≤ L) (hk : k ≤ 511) (kk : ∀ (I : Nat → Int32) (A : Nat → Nat → Int32) (J : Nat → Int32) (tw : Int64) (N : Nat → Int32) (R : Nat → Nat → Int32) (K : Nat → Nat → Option Nat) (r : Nat → Nat) (S : Nat → Int32) (T : Nat → Nat → Int32) (tl : va_W), XRel G I A N R K r tl → Tr G mLAW room_1 (OLW b L xs) (48 + 12 * (k + 1)) (2690 + 166 * (k + 1)) 1103 [(3, .int (nI (6 * k))), (2, .ref (bb 0)), (1, .ref (x 0)), (0, .ref b)] [] (MW G bb I A J tw ++ XW G x N R K r S T tl)) (I : Nat → Int32) (A : Nat → Nat → Int32) (J : Nat → Int32) (tw : Int64) (N : Nat → Int32) (R : Nat → Nat → Int32) (K : Nat → Nat → Option Nat) (r : Nat → Nat) (S : Nat → Int32) (T : Nat → Nat → Int32) (tl : va_W) (hx : XRel G I A N R K r tl) :
    Tr G mLAW room_1 (OLW b L xs) (48 + 12 * k) (2690 + 166 * k) 589 [(3, .int (nI (6 * k))), (2, .ref (bb 0)), (1, .ref (x 0)), (0, .ref b)] [] (MW G bb I A J tw ++ XW G x N R K r S T tl) := by
  obtain ⟨t, cd, h4, hOk⟩ := hx.cd
  refine z_aload_n d_law_589 2 rfl ?_
  refine z_aload_n d_law_590 3 rfl ?_
  refine z_iload_n d_law_591 0 rfl ?_
  refine z_iconst (v := nI 1) d_law_592 (by decide) ?_
  refine z_iadd d_law_593 ?_
  refine z_sld (6 * k + 1) (lx (by omega) (by decide)) (by omega) d_law_594 ?_
  refine z_callVR 0 c_L_77 rfl rfl (t_X11_next G x N R K r S T tl I A hx t cd hOk h4 (xs (6 * k + 1))) rfl rfl (Nat.le_of_ble_eq_true rfl) (rm_law (by decide) (by omega) (by omega)) d_law_595 ?_
  rintro v w1 ⟨rfl, N2, R2, K2, r2, S2, T2, tl2, rfl, hx2⟩
  refine z_swap ?_
  refine z_aload_n d_law_598 1 rfl ?_
  refine z_aload_n d_law_599 3 rfl ?_
  refine z_iload_n d_law_600 0 rfl ?_
  refine z_iconst (v := nI 1) d_law_601 (by decide) ?_
  refine z_iadd d_law_602 ?_
  refine z_sld (6 * k + 1) (lx (by omega) (by decide)) (by omega) d_law_603 ?_
  refine z_callVR 0 c_L_80 rfl rfl (t_X12_next G bb I A J tw t cd hOk h4 (xs (6 * k + 1))) rfl rfl (Nat.le_of_ble_eq_true rfl) (rm_law (by decide) (by omega) (by omega)) d_law_604 ?_
  rintro v w1 ⟨rfl, J2, tw2, rfl⟩
  refine z_swap ?_
  refine z_icmp_eq d_law_607 (fun _ => ?_) (fun q => absurd rfl q)
  refine z_widen (pc' := 0) (48 + 12 * (k + 1)) (2690 + 166 * (k + 1)) (by omega) (by omega) ?_
  exact kk _ _ _ _ _ _ _ _ _ _ _ hx2
set_option maxHeartbeats 8000000 in
set_option maxRecDepth 100000 in
theorem law_15 (G : GT) (x bb : Nat → Nat) (b L : Nat) (xs : Nat → Int32) (k : Nat) (hj : 6 * k + 6 ≤ L) (hk : k ≤ 511) (kk : ∀ (I : Nat → Int32) (A : Nat → Nat → Int32) (J : Nat → Int32) (tw : Int64) (N : Nat → Int32) (R : Nat → Nat → Int32) (K : Nat → Nat → Option Nat) (r : Nat → Nat) (S : Nat → Int32) (T : Nat → Nat → Int32) (tl : va_W), XRel G I A N R K r tl → Tr G mLAW room_1 (OLW b L xs) (48 + 12 * (k + 1)) (2690 + 166 * (k + 1)) 1103 [(3, .int (nI (6 * k))), (2, .ref (bb 0)), (1, .ref (x 0)), (0, .ref b)] [] (MW G bb I A J tw ++ XW G x N R K r S T tl)) (I : Nat → Int32) (A : Nat → Nat → Int32) (J : Nat → Int32) (tw : Int64) (N : Nat → Int32) (R : Nat → Nat → Int32) (K : Nat → Nat → Option Nat) (r : Nat → Nat) (S : Nat → Int32) (T : Nat → Nat → Int32) (tl : va_W) (hx : XRel G I A N R K r tl) :
    Tr G mLAW room_1 (OLW b L xs) (48 + 12 * k) (2690 + 166 * k) 612 [(3, .int (nI (6 * k))), (2, .ref (bb 0)), (1, .ref (x 0)), (0, .ref b)] [] (MW G bb I A J tw ++ XW G x N R K r S T tl) := by
  obtain ⟨t, cd, h4, hOk⟩ := hx.cd
  refine z_aload_n d_law_612 2 rfl ?_
  refine z_aload_n d_law_613 3 rfl ?_
  refine z_iload_n d_law_614 0 rfl ?_
  refine z_iconst (v := nI 1) d_law_615 (by decide) ?_
  refine z_iadd d_law_616 ?_
  refine z_sld (6 * k + 1) (lx (by omega) (by decide)) (by omega) d_law_617 ?_
  refine z_aload_n d_law_618 3 rfl ?_
  refine z_iload_n d_law_619 0 rfl ?_
  refine z_iconst (v := nI 2) d_law_620 (by decide) ?_
  refine z_iadd d_law_621 ?_
  refine z_sld (6 * k + 2) (lx (by omega) (by decide)) (by omega) d_law_622 ?_
  refine z_callVR 0 c_L_81 rfl rfl (t_X11_build G x N R K r S T tl I A hx t cd hOk h4 (xs (6 * k + 1)) (xs (6 * k + 2))) rfl rfl (Nat.le_of_ble_eq_true rfl) (rm_law (by decide) (by omega) (by omega)) d_law_623 ?_
  rintro v w1 ⟨rfl, N2, R2, K2, r2, S2, T2, tl2, rfl, hx2⟩
  refine z_swap ?_
  refine z_aload_n d_law_626 1 rfl ?_
  refine z_aload_n d_law_627 3 rfl ?_
  refine z_iload_n d_law_628 0 rfl ?_
  refine z_iconst (v := nI 1) d_law_629 (by decide) ?_
  refine z_iadd d_law_630 ?_
  refine z_sld (6 * k + 1) (lx (by omega) (by decide)) (by omega) d_law_631 ?_
  refine z_aload_n d_law_632 3 rfl ?_
  refine z_iload_n d_law_633 0 rfl ?_
  refine z_iconst (v := nI 2) d_law_634 (by decide) ?_
  refine z_iadd d_law_635 ?_
  refine z_sld (6 * k + 2) (lx (by omega) (by decide)) (by omega) d_law_636 ?_
  refine z_callVR 0 c_L_84 rfl rfl (t_X12_build G bb I A J tw t cd hOk h4 (xs (6 * k + 1)) (xs (6 * k + 2))) rfl rfl (Nat.le_of_ble_eq_true rfl) (rm_law (by decide) (by omega) (by omega)) d_law_637 ?_
  rintro v w1 ⟨rfl, J2, tw2, rfl⟩
  refine z_swap ?_
  refine z_icmp_eq d_law_640 (fun _ => ?_) (fun q => absurd rfl q)
  refine z_widen (pc' := 0) (48 + 12 * (k + 1)) (2690 + 166 * (k + 1)) (by omega) (by omega) ?_
  exact kk _ _ _ _ _ _ _ _ _ _ _ hx2
set_option maxHeartbeats 8000000 in
set_option maxRecDepth 100000 in
theorem law_16 (G : GT) (x bb : Nat → Nat) (b L : Nat) (xs : Nat → Int32) (k : Nat) (hj : 6 * k + 6 ≤ L) (hk : k ≤ 511) (kk : ∀ (I : Nat → Int32) (A : Nat → Nat → Int32) (J : Nat → Int32) (tw : Int64) (N : Nat → Int32) (R : Nat → Nat → Int32) (K : Nat → Nat → Option Nat) (r : Nat → Nat) (S : Nat → Int32) (T : Nat → Nat → Int32) (tl : va_W), XRel G I A N R K r tl → Tr G mLAW room_1 (OLW b L xs) (48 + 12 * (k + 1)) (2690 + 166 * (k + 1)) 1103 [(3, .int (nI (6 * k))), (2, .ref (bb 0)), (1, .ref (x 0)), (0, .ref b)] [] (MW G bb I A J tw ++ XW G x N R K r S T tl)) (I : Nat → Int32) (A : Nat → Nat → Int32) (J : Nat → Int32) (tw : Int64) (N : Nat → Int32) (R : Nat → Nat → Int32) (K : Nat → Nat → Option Nat) (r : Nat → Nat) (S : Nat → Int32) (T : Nat → Nat → Int32) (tl : va_W) (hx : XRel G I A N R K r tl) :
    Tr G mLAW room_1 (OLW b L xs) (48 + 12 * k) (2690 + 166 * k) 645 [(3, .int (nI (6 * k))), (2, .ref (bb 0)), (1, .ref (x 0)), (0, .ref b)] [] (MW G bb I A J tw ++ XW G x N R K r S T tl) := by
  obtain ⟨t, cd, h4, hOk⟩ := hx.cd
  refine z_aload_n d_law_645 2 rfl ?_
  refine z_aload_n d_law_646 3 rfl ?_
  refine z_iload_n d_law_647 0 rfl ?_
  refine z_iconst (v := nI 1) d_law_648 (by decide) ?_
  refine z_iadd d_law_649 ?_
  refine z_sld (6 * k + 1) (lx (by omega) (by decide)) (by omega) d_law_650 ?_
  refine z_aload_n d_law_651 3 rfl ?_
  refine z_iload_n d_law_652 0 rfl ?_
  refine z_iconst (v := nI 2) d_law_653 (by decide) ?_
  refine z_iadd d_law_654 ?_
  refine z_sld (6 * k + 2) (lx (by omega) (by decide)) (by omega) d_law_655 ?_
  refine z_aload_n d_law_656 3 rfl ?_
  refine z_iload_n d_law_657 0 rfl ?_
  refine z_iconst (v := nI 3) d_law_658 (by decide) ?_
  refine z_iadd d_law_659 ?_
  refine z_sld (6 * k + 3) (lx (by omega) (by decide)) (by omega) d_law_660 ?_
  refine z_aload_n d_law_661 3 rfl ?_
  refine z_iload_n d_law_662 0 rfl ?_
  refine z_iconst (v := nI 4) d_law_663 (by decide) ?_
  refine z_iadd d_law_664 ?_
  refine z_sld (6 * k + 4) (lx (by omega) (by decide)) (by omega) d_law_665 ?_
  refine z_callVR 0 c_L_85 rfl rfl (t_X11_best G x N R K r S T tl I A hx t cd hOk h4 (xs (6 * k + 1)) (xs (6 * k + 2)) (xs (6 * k + 3)) (xs (6 * k + 4))) rfl rfl (Nat.le_of_ble_eq_true rfl) (rm_law (by decide) (by omega) (by omega)) d_law_666 ?_
  rintro v w1 ⟨rfl, N2, R2, K2, r2, S2, T2, tl2, rfl, hx2⟩
  refine z_swap ?_
  refine z_aload_n d_law_669 1 rfl ?_
  refine z_aload_n d_law_670 3 rfl ?_
  refine z_iload_n d_law_671 0 rfl ?_
  refine z_iconst (v := nI 1) d_law_672 (by decide) ?_
  refine z_iadd d_law_673 ?_
  refine z_sld (6 * k + 1) (lx (by omega) (by decide)) (by omega) d_law_674 ?_
  refine z_aload_n d_law_675 3 rfl ?_
  refine z_iload_n d_law_676 0 rfl ?_
  refine z_iconst (v := nI 2) d_law_677 (by decide) ?_
  refine z_iadd d_law_678 ?_
  refine z_sld (6 * k + 2) (lx (by omega) (by decide)) (by omega) d_law_679 ?_
  refine z_aload_n d_law_680 3 rfl ?_
  refine z_iload_n d_law_681 0 rfl ?_
  refine z_iconst (v := nI 3) d_law_682 (by decide) ?_
  refine z_iadd d_law_683 ?_
  refine z_sld (6 * k + 3) (lx (by omega) (by decide)) (by omega) d_law_684 ?_
  refine z_aload_n d_law_685 3 rfl ?_
  refine z_iload_n d_law_686 0 rfl ?_
  refine z_iconst (v := nI 4) d_law_687 (by decide) ?_
  refine z_iadd d_law_688 ?_
  refine z_sld (6 * k + 4) (lx (by omega) (by decide)) (by omega) d_law_689 ?_
  refine z_callVR 0 c_L_89 rfl rfl (t_X12_best G bb I A J tw t cd hOk h4 (xs (6 * k + 1)) (xs (6 * k + 2)) (xs (6 * k + 3)) (xs (6 * k + 4))) rfl rfl (Nat.le_of_ble_eq_true rfl) (rm_law (by decide) (by omega) (by omega)) d_law_690 ?_
  rintro v w1 ⟨rfl, J2, tw2, rfl⟩
  refine z_swap ?_
  refine z_icmp_eq d_law_693 (fun _ => ?_) (fun q => absurd rfl q)
  refine z_widen (pc' := 0) (48 + 12 * (k + 1)) (2690 + 166 * (k + 1)) (by omega) (by omega) ?_
  exact kk _ _ _ _ _ _ _ _ _ _ _ hx2
set_option maxHeartbeats 8000000 in
set_option maxRecDepth 100000 in
theorem law_17 (G : GT) (x bb : Nat → Nat) (b L : Nat) (xs : Nat → Int32) (k : Nat) (hj : 6 * k + 6 ≤ L) (hk : k ≤ 511) (kk : ∀ (I : Nat → Int32) (A : Nat → Nat → Int32) (J : Nat → Int32) (tw : Int64) (N : Nat → Int32) (R : Nat → Nat → Int32) (K : Nat → Nat → Option Nat) (r : Nat → Nat) (S : Nat → Int32) (T : Nat → Nat → Int32) (tl : va_W), XRel G I A N R K r tl → Tr G mLAW room_1 (OLW b L xs) (48 + 12 * (k + 1)) (2690 + 166 * (k + 1)) 1103 [(3, .int (nI (6 * k))), (2, .ref (bb 0)), (1, .ref (x 0)), (0, .ref b)] [] (MW G bb I A J tw ++ XW G x N R K r S T tl)) (I : Nat → Int32) (A : Nat → Nat → Int32) (J : Nat → Int32) (tw : Int64) (N : Nat → Int32) (R : Nat → Nat → Int32) (K : Nat → Nat → Option Nat) (r : Nat → Nat) (S : Nat → Int32) (T : Nat → Nat → Int32) (tl : va_W) (hx : XRel G I A N R K r tl) :
    Tr G mLAW room_1 (OLW b L xs) (48 + 12 * k) (2690 + 166 * k) 698 [(3, .int (nI (6 * k))), (2, .ref (bb 0)), (1, .ref (x 0)), (0, .ref b)] [] (MW G bb I A J tw ++ XW G x N R K r S T tl) := by
  obtain ⟨t, cd, h4, hOk⟩ := hx.cd
  refine z_aload_n d_law_698 2 rfl ?_
  refine z_callVR 0 c_L_90 rfl rfl (t_X11_takes G x N R K r S T tl I A hx t cd hOk h4) rfl rfl (Nat.le_of_ble_eq_true rfl) (rm_law (by decide) (by omega) (by omega)) d_law_699 ?_
  rintro v w1 ⟨rfl, N2, R2, K2, r2, S2, T2, tl2, rfl, hx2⟩
  refine z_swap ?_
  refine z_aload_n d_law_702 1 rfl ?_
  refine z_callVR 0 c_L_93 rfl rfl (t_X12_takes G bb I A J tw t cd hOk h4) rfl rfl (Nat.le_of_ble_eq_true rfl) (rm_law (by decide) (by omega) (by omega)) d_law_703 ?_
  rintro v w1 ⟨rfl, J2, tw2, rfl⟩
  refine z_swap ?_
  refine z_icmp_eq d_law_706 (fun _ => ?_) (fun q => absurd rfl q)
  refine z_widen (pc' := 0) (48 + 12 * (k + 1)) (2690 + 166 * (k + 1)) (by omega) (by omega) ?_
  exact kk _ _ _ _ _ _ _ _ _ _ _ hx2
set_option maxHeartbeats 8000000 in
set_option maxRecDepth 100000 in
theorem law_18 (G : GT) (x bb : Nat → Nat) (b L : Nat) (xs : Nat → Int32) (k : Nat) (hj : 6 * k + 6 ≤ L) (hk : k ≤ 511) (kk : ∀ (I : Nat → Int32) (A : Nat → Nat → Int32) (J : Nat → Int32) (tw : Int64) (N : Nat → Int32) (R : Nat → Nat → Int32) (K : Nat → Nat → Option Nat) (r : Nat → Nat) (S : Nat → Int32) (T : Nat → Nat → Int32) (tl : va_W), XRel G I A N R K r tl → Tr G mLAW room_1 (OLW b L xs) (48 + 12 * (k + 1)) (2690 + 166 * (k + 1)) 1103 [(3, .int (nI (6 * k))), (2, .ref (bb 0)), (1, .ref (x 0)), (0, .ref b)] [] (MW G bb I A J tw ++ XW G x N R K r S T tl)) (I : Nat → Int32) (A : Nat → Nat → Int32) (J : Nat → Int32) (tw : Int64) (N : Nat → Int32) (R : Nat → Nat → Int32) (K : Nat → Nat → Option Nat) (r : Nat → Nat) (S : Nat → Int32) (T : Nat → Nat → Int32) (tl : va_W) (hx : XRel G I A N R K r tl) :
    Tr G mLAW room_1 (OLW b L xs) (48 + 12 * k) (2690 + 166 * k) 711 [(3, .int (nI (6 * k))), (2, .ref (bb 0)), (1, .ref (x 0)), (0, .ref b)] [] (MW G bb I A J tw ++ XW G x N R K r S T tl) := by
  obtain ⟨t, cd, h4, hOk⟩ := hx.cd
  refine z_aload_n d_law_711 2 rfl ?_
  refine z_callVR 0 c_L_94 rfl rfl (t_X11_when G x N R K r S T tl I A hx t cd hOk h4) rfl rfl (Nat.le_of_ble_eq_true rfl) (rm_law (by decide) (by omega) (by omega)) d_law_712 ?_
  rintro v w1 ⟨rfl, N2, R2, K2, r2, S2, T2, tl2, rfl, hx2⟩
  refine z_swap ?_
  refine z_aload_n d_law_715 1 rfl ?_
  refine z_callVR 0 c_L_97 rfl rfl (t_X12_when G bb I A J tw t cd hOk h4) rfl rfl (Nat.le_of_ble_eq_true rfl) (rm_law (by decide) (by omega) (by omega)) d_law_716 ?_
  rintro v w1 ⟨rfl, J2, tw2, rfl⟩
  refine z_swap ?_
  refine z_icmp_eq d_law_719 (fun _ => ?_) (fun q => absurd rfl q)
  refine z_widen (pc' := 0) (48 + 12 * (k + 1)) (2690 + 166 * (k + 1)) (by omega) (by omega) ?_
  exact kk _ _ _ _ _ _ _ _ _ _ _ hx2
set_option maxHeartbeats 8000000 in
set_option maxRecDepth 100000 in
theorem law_19 (G : GT) (x bb : Nat → Nat) (b L : Nat) (xs : Nat → Int32) (k : Nat) (hj : 6 * k + 6 ≤ L) (hk : k ≤ 511) (kk : ∀ (I : Nat → Int32) (A : Nat → Nat → Int32) (J : Nat → Int32) (tw : Int64) (N : Nat → Int32) (R : Nat → Nat → Int32) (K : Nat → Nat → Option Nat) (r : Nat → Nat) (S : Nat → Int32) (T : Nat → Nat → Int32) (tl : va_W), XRel G I A N R K r tl → Tr G mLAW room_1 (OLW b L xs) (48 + 12 * (k + 1)) (2690 + 166 * (k + 1)) 1103 [(3, .int (nI (6 * k))), (2, .ref (bb 0)), (1, .ref (x 0)), (0, .ref b)] [] (MW G bb I A J tw ++ XW G x N R K r S T tl)) (I : Nat → Int32) (A : Nat → Nat → Int32) (J : Nat → Int32) (tw : Int64) (N : Nat → Int32) (R : Nat → Nat → Int32) (K : Nat → Nat → Option Nat) (r : Nat → Nat) (S : Nat → Int32) (T : Nat → Nat → Int32) (tl : va_W) (hx : XRel G I A N R K r tl) :
    Tr G mLAW room_1 (OLW b L xs) (48 + 12 * k) (2690 + 166 * k) 724 [(3, .int (nI (6 * k))), (2, .ref (bb 0)), (1, .ref (x 0)), (0, .ref b)] [] (MW G bb I A J tw ++ XW G x N R K r S T tl) := by
  refine z_aload_n d_law_724 2 rfl ?_
  refine z_callVR 0 c_L_98 rfl rfl (t_X11_spare G x N R K r S T tl I A hx) rfl rfl (Nat.le_of_ble_eq_true rfl) (rm_law (by decide) (by omega) (by omega)) d_law_725 ?_
  rintro v w1 ⟨rfl, N2, R2, K2, r2, S2, T2, tl2, rfl, hx2⟩
  refine z_swap ?_
  refine z_aload_n d_law_728 1 rfl ?_
  refine z_callVR 0 c_L_101 rfl rfl (t_X12_spare G bb I A J tw) rfl rfl (Nat.le_of_ble_eq_true rfl) (rm_law (by decide) (by omega) (by omega)) d_law_729 ?_
  rintro v w1 ⟨rfl, rfl⟩
  refine z_swap ?_
  refine z_icmp_eq d_law_732 (fun _ => ?_) (fun q => absurd rfl q)
  refine z_widen (pc' := 0) (48 + 12 * (k + 1)) (2690 + 166 * (k + 1)) (by omega) (by omega) ?_
  exact kk _ _ _ _ _ _ _ _ _ _ _ hx2
set_option maxHeartbeats 8000000 in
set_option maxRecDepth 100000 in
theorem law_20 (G : GT) (x bb : Nat → Nat) (b L : Nat) (xs : Nat → Int32) (k : Nat) (hj : 6 * k + 6 ≤ L) (hk : k ≤ 511) (kk : ∀ (I : Nat → Int32) (A : Nat → Nat → Int32) (J : Nat → Int32) (tw : Int64) (N : Nat → Int32) (R : Nat → Nat → Int32) (K : Nat → Nat → Option Nat) (r : Nat → Nat) (S : Nat → Int32) (T : Nat → Nat → Int32) (tl : va_W), XRel G I A N R K r tl → Tr G mLAW room_1 (OLW b L xs) (48 + 12 * (k + 1)) (2690 + 166 * (k + 1)) 1103 [(3, .int (nI (6 * k))), (2, .ref (bb 0)), (1, .ref (x 0)), (0, .ref b)] [] (MW G bb I A J tw ++ XW G x N R K r S T tl)) (I : Nat → Int32) (A : Nat → Nat → Int32) (J : Nat → Int32) (tw : Int64) (N : Nat → Int32) (R : Nat → Nat → Int32) (K : Nat → Nat → Option Nat) (r : Nat → Nat) (S : Nat → Int32) (T : Nat → Nat → Int32) (tl : va_W) (hx : XRel G I A N R K r tl) :
    Tr G mLAW room_1 (OLW b L xs) (48 + 12 * k) (2690 + 166 * k) 737 [(3, .int (nI (6 * k))), (2, .ref (bb 0)), (1, .ref (x 0)), (0, .ref b)] [] (MW G bb I A J tw ++ XW G x N R K r S T tl) := by
  refine z_aload_n d_law_737 2 rfl ?_
  refine z_aload_n d_law_738 3 rfl ?_
  refine z_iload_n d_law_739 0 rfl ?_
  refine z_iconst (v := nI 1) d_law_740 (by decide) ?_
  refine z_iadd d_law_741 ?_
  refine z_sld (6 * k + 1) (lx (by omega) (by decide)) (by omega) d_law_742 ?_
  refine z_callVR 0 c_L_102 rfl rfl (t_X11_brown G x N R K r S T tl I A hx (xs (6 * k + 1))) rfl rfl (Nat.le_of_ble_eq_true rfl) (rm_law (by decide) (by omega) (by omega)) d_law_743 ?_
  rintro v w1 ⟨rfl, N2, R2, K2, r2, S2, T2, tl2, rfl, hx2⟩
  refine z_swap ?_
  refine z_aload_n d_law_746 1 rfl ?_
  refine z_aload_n d_law_747 3 rfl ?_
  refine z_iload_n d_law_748 0 rfl ?_
  refine z_iconst (v := nI 1) d_law_749 (by decide) ?_
  refine z_iadd d_law_750 ?_
  refine z_sld (6 * k + 1) (lx (by omega) (by decide)) (by omega) d_law_751 ?_
  refine z_callVR 0 c_L_105 rfl rfl (t_X12_brown G bb I A J tw (xs (6 * k + 1))) rfl rfl (Nat.le_of_ble_eq_true rfl) (rm_law (by decide) (by omega) (by omega)) d_law_752 ?_
  rintro v w1 ⟨rfl, rfl⟩
  refine z_swap ?_
  refine z_icmp_eq d_law_755 (fun _ => ?_) (fun q => absurd rfl q)
  refine z_widen (pc' := 0) (48 + 12 * (k + 1)) (2690 + 166 * (k + 1)) (by omega) (by omega) ?_
  exact kk _ _ _ _ _ _ _ _ _ _ _ hx2
set_option maxHeartbeats 8000000 in
set_option maxRecDepth 100000 in
theorem law_21 (G : GT) (x bb : Nat → Nat) (b L : Nat) (xs : Nat → Int32) (k : Nat) (hj : 6 * k + 6 ≤ L) (hk : k ≤ 511) (kk : ∀ (I : Nat → Int32) (A : Nat → Nat → Int32) (J : Nat → Int32) (tw : Int64) (N : Nat → Int32) (R : Nat → Nat → Int32) (K : Nat → Nat → Option Nat) (r : Nat → Nat) (S : Nat → Int32) (T : Nat → Nat → Int32) (tl : va_W), XRel G I A N R K r tl → Tr G mLAW room_1 (OLW b L xs) (48 + 12 * (k + 1)) (2690 + 166 * (k + 1)) 1103 [(3, .int (nI (6 * k))), (2, .ref (bb 0)), (1, .ref (x 0)), (0, .ref b)] [] (MW G bb I A J tw ++ XW G x N R K r S T tl)) (I : Nat → Int32) (A : Nat → Nat → Int32) (J : Nat → Int32) (tw : Int64) (N : Nat → Int32) (R : Nat → Nat → Int32) (K : Nat → Nat → Option Nat) (r : Nat → Nat) (S : Nat → Int32) (T : Nat → Nat → Int32) (tl : va_W) (hx : XRel G I A N R K r tl) :
    Tr G mLAW room_1 (OLW b L xs) (48 + 12 * k) (2690 + 166 * k) 760 [(3, .int (nI (6 * k))), (2, .ref (bb 0)), (1, .ref (x 0)), (0, .ref b)] [] (MW G bb I A J tw ++ XW G x N R K r S T tl) := by
  refine z_aload_n d_law_760 2 rfl ?_
  refine z_callVR 0 c_L_106 rfl rfl (t_X11_holes G x N R K r S T tl I A hx) rfl rfl (Nat.le_of_ble_eq_true rfl) (rm_law (by decide) (by omega) (by omega)) d_law_761 ?_
  rintro v w1 ⟨rfl, N2, R2, K2, r2, S2, T2, tl2, rfl, hx2⟩
  refine z_swap ?_
  refine z_aload_n d_law_764 1 rfl ?_
  refine z_callVR 0 c_L_109 rfl rfl (t_X12_holes G bb I A J tw) rfl rfl (Nat.le_of_ble_eq_true rfl) (rm_law (by decide) (by omega) (by omega)) d_law_765 ?_
  rintro v w1 ⟨rfl, rfl⟩
  refine z_swap ?_
  refine z_icmp_eq d_law_768 (fun _ => ?_) (fun q => absurd rfl q)
  refine z_widen (pc' := 0) (48 + 12 * (k + 1)) (2690 + 166 * (k + 1)) (by omega) (by omega) ?_
  exact kk _ _ _ _ _ _ _ _ _ _ _ hx2
set_option maxHeartbeats 8000000 in
set_option maxRecDepth 100000 in
theorem law_22 (G : GT) (x bb : Nat → Nat) (b L : Nat) (xs : Nat → Int32) (k : Nat) (hj : 6 * k + 6 ≤ L) (hk : k ≤ 511) (kk : ∀ (I : Nat → Int32) (A : Nat → Nat → Int32) (J : Nat → Int32) (tw : Int64) (N : Nat → Int32) (R : Nat → Nat → Int32) (K : Nat → Nat → Option Nat) (r : Nat → Nat) (S : Nat → Int32) (T : Nat → Nat → Int32) (tl : va_W), XRel G I A N R K r tl → Tr G mLAW room_1 (OLW b L xs) (48 + 12 * (k + 1)) (2690 + 166 * (k + 1)) 1103 [(3, .int (nI (6 * k))), (2, .ref (bb 0)), (1, .ref (x 0)), (0, .ref b)] [] (MW G bb I A J tw ++ XW G x N R K r S T tl)) (I : Nat → Int32) (A : Nat → Nat → Int32) (J : Nat → Int32) (tw : Int64) (N : Nat → Int32) (R : Nat → Nat → Int32) (K : Nat → Nat → Option Nat) (r : Nat → Nat) (S : Nat → Int32) (T : Nat → Nat → Int32) (tl : va_W) (hx : XRel G I A N R K r tl) :
    Tr G mLAW room_1 (OLW b L xs) (48 + 12 * k) (2690 + 166 * k) 773 [(3, .int (nI (6 * k))), (2, .ref (bb 0)), (1, .ref (x 0)), (0, .ref b)] [] (MW G bb I A J tw ++ XW G x N R K r S T tl) := by
  refine z_aload_n d_law_773 2 rfl ?_
  refine z_aload_n d_law_774 3 rfl ?_
  refine z_iload_n d_law_775 0 rfl ?_
  refine z_iconst (v := nI 1) d_law_776 (by decide) ?_
  refine z_iadd d_law_777 ?_
  refine z_sld (6 * k + 1) (lx (by omega) (by decide)) (by omega) d_law_778 ?_
  refine z_aload_n d_law_779 3 rfl ?_
  refine z_iload_n d_law_780 0 rfl ?_
  refine z_iconst (v := nI 2) d_law_781 (by decide) ?_
  refine z_iadd d_law_782 ?_
  refine z_sld (6 * k + 2) (lx (by omega) (by decide)) (by omega) d_law_783 ?_
  refine z_callVR 0 c_L_110 rfl rfl (t_X11_closes G x N R K r S T tl I A hx (xs (6 * k + 1)) (xs (6 * k + 2))) rfl rfl (Nat.le_of_ble_eq_true rfl) (rm_law (by decide) (by omega) (by omega)) d_law_784 ?_
  rintro v w1 ⟨rfl, N2, R2, K2, r2, S2, T2, tl2, rfl, hx2⟩
  refine z_swap ?_
  refine z_aload_n d_law_787 1 rfl ?_
  refine z_aload_n d_law_788 3 rfl ?_
  refine z_iload_n d_law_789 0 rfl ?_
  refine z_iconst (v := nI 1) d_law_790 (by decide) ?_
  refine z_iadd d_law_791 ?_
  refine z_sld (6 * k + 1) (lx (by omega) (by decide)) (by omega) d_law_792 ?_
  refine z_aload_n d_law_793 3 rfl ?_
  refine z_iload_n d_law_794 0 rfl ?_
  refine z_iconst (v := nI 2) d_law_795 (by decide) ?_
  refine z_iadd d_law_796 ?_
  refine z_sld (6 * k + 2) (lx (by omega) (by decide)) (by omega) d_law_797 ?_
  refine z_callVR 0 c_L_113 rfl rfl (t_X12_closes G bb I A J tw (xs (6 * k + 1)) (xs (6 * k + 2))) rfl rfl (Nat.le_of_ble_eq_true rfl) (rm_law (by decide) (by omega) (by omega)) d_law_798 ?_
  rintro v w1 ⟨rfl, rfl⟩
  refine z_swap ?_
  refine z_icmp_eq d_law_801 (fun _ => ?_) (fun q => absurd rfl q)
  refine z_widen (pc' := 0) (48 + 12 * (k + 1)) (2690 + 166 * (k + 1)) (by omega) (by omega) ?_
  exact kk _ _ _ _ _ _ _ _ _ _ _ hx2
set_option maxHeartbeats 8000000 in
set_option maxRecDepth 100000 in
theorem law_23 (G : GT) (x bb : Nat → Nat) (b L : Nat) (xs : Nat → Int32) (k : Nat) (hj : 6 * k + 6 ≤ L) (hk : k ≤ 511) (kk : ∀ (I : Nat → Int32) (A : Nat → Nat → Int32) (J : Nat → Int32) (tw : Int64) (N : Nat → Int32) (R : Nat → Nat → Int32) (K : Nat → Nat → Option Nat) (r : Nat → Nat) (S : Nat → Int32) (T : Nat → Nat → Int32) (tl : va_W), XRel G I A N R K r tl → Tr G mLAW room_1 (OLW b L xs) (48 + 12 * (k + 1)) (2690 + 166 * (k + 1)) 1103 [(3, .int (nI (6 * k))), (2, .ref (bb 0)), (1, .ref (x 0)), (0, .ref b)] [] (MW G bb I A J tw ++ XW G x N R K r S T tl)) (I : Nat → Int32) (A : Nat → Nat → Int32) (J : Nat → Int32) (tw : Int64) (N : Nat → Int32) (R : Nat → Nat → Int32) (K : Nat → Nat → Option Nat) (r : Nat → Nat) (S : Nat → Int32) (T : Nat → Nat → Int32) (tl : va_W) (hx : XRel G I A N R K r tl) :
    Tr G mLAW room_1 (OLW b L xs) (48 + 12 * k) (2690 + 166 * k) 806 [(3, .int (nI (6 * k))), (2, .ref (bb 0)), (1, .ref (x 0)), (0, .ref b)] [] (MW G bb I A J tw ++ XW G x N R K r S T tl) := by
  refine z_aload_n d_law_806 2 rfl ?_
  refine z_callVR 0 c_L_114 rfl rfl (t_X11_slipped G x N R K r S T tl I A hx) rfl rfl (Nat.le_of_ble_eq_true rfl) (rm_law (by decide) (by omega) (by omega)) d_law_807 ?_
  rintro v w1 ⟨rfl, N2, R2, K2, r2, S2, T2, tl2, rfl, hx2⟩
  refine z_swap ?_
  refine z_aload_n d_law_810 1 rfl ?_
  refine z_callVR 0 c_L_117 rfl rfl (t_X12_slipped G bb I A J tw) rfl rfl (Nat.le_of_ble_eq_true rfl) (rm_law (by decide) (by omega) (by omega)) d_law_811 ?_
  rintro v w1 ⟨rfl, rfl⟩
  refine z_swap ?_
  refine z_icmp_eq d_law_814 (fun _ => ?_) (fun q => absurd rfl q)
  refine z_widen (pc' := 0) (48 + 12 * (k + 1)) (2690 + 166 * (k + 1)) (by omega) (by omega) ?_
  exact kk _ _ _ _ _ _ _ _ _ _ _ hx2
set_option maxHeartbeats 8000000 in
set_option maxRecDepth 100000 in
theorem law_24 (G : GT) (x bb : Nat → Nat) (b L : Nat) (xs : Nat → Int32) (k : Nat) (hj : 6 * k + 6 ≤ L) (hk : k ≤ 511) (kk : ∀ (I : Nat → Int32) (A : Nat → Nat → Int32) (J : Nat → Int32) (tw : Int64) (N : Nat → Int32) (R : Nat → Nat → Int32) (K : Nat → Nat → Option Nat) (r : Nat → Nat) (S : Nat → Int32) (T : Nat → Nat → Int32) (tl : va_W), XRel G I A N R K r tl → Tr G mLAW room_1 (OLW b L xs) (48 + 12 * (k + 1)) (2690 + 166 * (k + 1)) 1103 [(3, .int (nI (6 * k))), (2, .ref (bb 0)), (1, .ref (x 0)), (0, .ref b)] [] (MW G bb I A J tw ++ XW G x N R K r S T tl)) (I : Nat → Int32) (A : Nat → Nat → Int32) (J : Nat → Int32) (tw : Int64) (N : Nat → Int32) (R : Nat → Nat → Int32) (K : Nat → Nat → Option Nat) (r : Nat → Nat) (S : Nat → Int32) (T : Nat → Nat → Int32) (tl : va_W) (hx : XRel G I A N R K r tl) :
    Tr G mLAW room_1 (OLW b L xs) (48 + 12 * k) (2690 + 166 * k) 819 [(3, .int (nI (6 * k))), (2, .ref (bb 0)), (1, .ref (x 0)), (0, .ref b)] [] (MW G bb I A J tw ++ XW G x N R K r S T tl) := by
  refine z_aload_n d_law_819 2 rfl ?_
  refine z_callVR 0 c_L_118 rfl rfl (t_X11_image G x N R K r S T tl I A hx) rfl rfl (Nat.le_of_ble_eq_true rfl) (rm_law (by decide) (by omega) (by omega)) d_law_820 ?_
  rintro v w1 ⟨rfl, N2, R2, K2, r2, S2, T2, tl2, rfl, hx2⟩
  refine z_swap ?_
  refine z_aload_n d_law_823 1 rfl ?_
  refine z_callVR 0 c_L_121 rfl rfl (t_X12_image G bb I A J tw) rfl rfl (Nat.le_of_ble_eq_true rfl) (rm_law (by decide) (by omega) (by omega)) d_law_824 ?_
  rintro v w1 ⟨rfl, rfl⟩
  refine z_swap ?_
  refine z_icmp_eq d_law_827 (fun _ => ?_) (fun q => absurd rfl q)
  refine z_widen (pc' := 0) (48 + 12 * (k + 1)) (2690 + 166 * (k + 1)) (by omega) (by omega) ?_
  exact kk _ _ _ _ _ _ _ _ _ _ _ hx2
set_option maxHeartbeats 8000000 in
set_option maxRecDepth 100000 in
theorem law_25 (G : GT) (x bb : Nat → Nat) (b L : Nat) (xs : Nat → Int32) (k : Nat) (hj : 6 * k + 6 ≤ L) (hk : k ≤ 511) (kk : ∀ (I : Nat → Int32) (A : Nat → Nat → Int32) (J : Nat → Int32) (tw : Int64) (N : Nat → Int32) (R : Nat → Nat → Int32) (K : Nat → Nat → Option Nat) (r : Nat → Nat) (S : Nat → Int32) (T : Nat → Nat → Int32) (tl : va_W), XRel G I A N R K r tl → Tr G mLAW room_1 (OLW b L xs) (48 + 12 * (k + 1)) (2690 + 166 * (k + 1)) 1103 [(3, .int (nI (6 * k))), (2, .ref (bb 0)), (1, .ref (x 0)), (0, .ref b)] [] (MW G bb I A J tw ++ XW G x N R K r S T tl)) (I : Nat → Int32) (A : Nat → Nat → Int32) (J : Nat → Int32) (tw : Int64) (N : Nat → Int32) (R : Nat → Nat → Int32) (K : Nat → Nat → Option Nat) (r : Nat → Nat) (S : Nat → Int32) (T : Nat → Nat → Int32) (tl : va_W) (hx : XRel G I A N R K r tl) :
    Tr G mLAW room_1 (OLW b L xs) (48 + 12 * k) (2690 + 166 * k) 832 [(3, .int (nI (6 * k))), (2, .ref (bb 0)), (1, .ref (x 0)), (0, .ref b)] [] (MW G bb I A J tw ++ XW G x N R K r S T tl) := by
  refine z_aload_n d_law_832 2 rfl ?_
  refine z_callVR 0 c_L_122 rfl rfl (t_X11_back G x N R K r S T tl I A hx) rfl rfl (Nat.le_of_ble_eq_true rfl) (rm_law (by decide) (by omega) (by omega)) d_law_833 ?_
  rintro v w1 ⟨rfl, N2, R2, K2, r2, S2, T2, tl2, rfl, hx2⟩
  refine z_swap ?_
  refine z_aload_n d_law_836 1 rfl ?_
  refine z_callVR 0 c_L_125 rfl rfl (t_X12_back G bb I A J tw) rfl rfl (Nat.le_of_ble_eq_true rfl) (rm_law (by decide) (by omega) (by omega)) d_law_837 ?_
  rintro v w1 ⟨rfl, rfl⟩
  refine z_swap ?_
  refine z_icmp_eq d_law_840 (fun _ => ?_) (fun q => absurd rfl q)
  refine z_widen (pc' := 0) (48 + 12 * (k + 1)) (2690 + 166 * (k + 1)) (by omega) (by omega) ?_
  exact kk _ _ _ _ _ _ _ _ _ _ _ hx2
set_option maxHeartbeats 8000000 in
set_option maxRecDepth 100000 in
theorem law_26 (G : GT) (x bb : Nat → Nat) (b L : Nat) (xs : Nat → Int32) (k : Nat) (hj : 6 * k + 6 ≤ L) (hk : k ≤ 511) (kk : ∀ (I : Nat → Int32) (A : Nat → Nat → Int32) (J : Nat → Int32) (tw : Int64) (N : Nat → Int32) (R : Nat → Nat → Int32) (K : Nat → Nat → Option Nat) (r : Nat → Nat) (S : Nat → Int32) (T : Nat → Nat → Int32) (tl : va_W), XRel G I A N R K r tl → Tr G mLAW room_1 (OLW b L xs) (48 + 12 * (k + 1)) (2690 + 166 * (k + 1)) 1103 [(3, .int (nI (6 * k))), (2, .ref (bb 0)), (1, .ref (x 0)), (0, .ref b)] [] (MW G bb I A J tw ++ XW G x N R K r S T tl)) (I : Nat → Int32) (A : Nat → Nat → Int32) (J : Nat → Int32) (tw : Int64) (N : Nat → Int32) (R : Nat → Nat → Int32) (K : Nat → Nat → Option Nat) (r : Nat → Nat) (S : Nat → Int32) (T : Nat → Nat → Int32) (tl : va_W) (hx : XRel G I A N R K r tl) :
    Tr G mLAW room_1 (OLW b L xs) (48 + 12 * k) (2690 + 166 * k) 845 [(3, .int (nI (6 * k))), (2, .ref (bb 0)), (1, .ref (x 0)), (0, .ref b)] [] (MW G bb I A J tw ++ XW G x N R K r S T tl) := by
  refine z_aload_n d_law_845 2 rfl ?_
  refine z_aload_n d_law_846 3 rfl ?_
  refine z_iload_n d_law_847 0 rfl ?_
  refine z_iconst (v := nI 1) d_law_848 (by decide) ?_
  refine z_iadd d_law_849 ?_
  refine z_sld (6 * k + 1) (lx (by omega) (by decide)) (by omega) d_law_850 ?_
  refine z_callVR 0 c_L_126 rfl rfl (t_X11_count G x N R K r S T tl I A hx (xs (6 * k + 1))) rfl rfl (Nat.le_of_ble_eq_true rfl) (rm_law (by decide) (by omega) (by omega)) d_law_851 ?_
  rintro v w1 ⟨rfl, N2, R2, K2, r2, S2, T2, tl2, rfl, hx2⟩
  refine z_swap ?_
  refine z_aload_n d_law_854 1 rfl ?_
  refine z_aload_n d_law_855 3 rfl ?_
  refine z_iload_n d_law_856 0 rfl ?_
  refine z_iconst (v := nI 1) d_law_857 (by decide) ?_
  refine z_iadd d_law_858 ?_
  refine z_sld (6 * k + 1) (lx (by omega) (by decide)) (by omega) d_law_859 ?_
  refine z_callVR 0 c_L_129 rfl rfl (t_X12_count G bb I A J tw (xs (6 * k + 1))) rfl rfl (Nat.le_of_ble_eq_true rfl) (rm_law (by decide) (by omega) (by omega)) d_law_860 ?_
  rintro v w1 ⟨rfl, rfl⟩
  refine z_swap ?_
  refine z_icmp_eq d_law_863 (fun _ => ?_) (fun q => absurd rfl q)
  refine z_widen (pc' := 0) (48 + 12 * (k + 1)) (2690 + 166 * (k + 1)) (by omega) (by omega) ?_
  exact kk _ _ _ _ _ _ _ _ _ _ _ hx2
set_option maxHeartbeats 8000000 in
set_option maxRecDepth 100000 in
theorem law_27 (G : GT) (x bb : Nat → Nat) (b L : Nat) (xs : Nat → Int32) (k : Nat) (hj : 6 * k + 6 ≤ L) (hk : k ≤ 511) (kk : ∀ (I : Nat → Int32) (A : Nat → Nat → Int32) (J : Nat → Int32) (tw : Int64) (N : Nat → Int32) (R : Nat → Nat → Int32) (K : Nat → Nat → Option Nat) (r : Nat → Nat) (S : Nat → Int32) (T : Nat → Nat → Int32) (tl : va_W), XRel G I A N R K r tl → Tr G mLAW room_1 (OLW b L xs) (48 + 12 * (k + 1)) (2690 + 166 * (k + 1)) 1103 [(3, .int (nI (6 * k))), (2, .ref (bb 0)), (1, .ref (x 0)), (0, .ref b)] [] (MW G bb I A J tw ++ XW G x N R K r S T tl)) (I : Nat → Int32) (A : Nat → Nat → Int32) (J : Nat → Int32) (tw : Int64) (N : Nat → Int32) (R : Nat → Nat → Int32) (K : Nat → Nat → Option Nat) (r : Nat → Nat) (S : Nat → Int32) (T : Nat → Nat → Int32) (tl : va_W) (hx : XRel G I A N R K r tl) :
    Tr G mLAW room_1 (OLW b L xs) (48 + 12 * k) (2690 + 166 * k) 868 [(3, .int (nI (6 * k))), (2, .ref (bb 0)), (1, .ref (x 0)), (0, .ref b)] [] (MW G bb I A J tw ++ XW G x N R K r S T tl) := by
  refine z_aload_n d_law_868 2 rfl ?_
  refine z_aload_n d_law_869 3 rfl ?_
  refine z_iload_n d_law_870 0 rfl ?_
  refine z_iconst (v := nI 1) d_law_871 (by decide) ?_
  refine z_iadd d_law_872 ?_
  refine z_sld (6 * k + 1) (lx (by omega) (by decide)) (by omega) d_law_873 ?_
  refine z_aload_n d_law_874 3 rfl ?_
  refine z_iload_n d_law_875 0 rfl ?_
  refine z_iconst (v := nI 2) d_law_876 (by decide) ?_
  refine z_iadd d_law_877 ?_
  refine z_sld (6 * k + 2) (lx (by omega) (by decide)) (by omega) d_law_878 ?_
  refine z_aload_n d_law_879 3 rfl ?_
  refine z_iload_n d_law_880 0 rfl ?_
  refine z_iconst (v := nI 3) d_law_881 (by decide) ?_
  refine z_iadd d_law_882 ?_
  refine z_sld (6 * k + 3) (lx (by omega) (by decide)) (by omega) d_law_883 ?_
  refine z_callVR 0 c_L_130 rfl rfl (t_X11_sheet G x N R K r S T tl I A hx (xs (6 * k + 1)) (xs (6 * k + 2)) (xs (6 * k + 3))) rfl rfl (Nat.le_of_ble_eq_true rfl) (rm_law (by decide) (by omega) (by omega)) d_law_884 ?_
  rintro v w1 ⟨rfl, N2, R2, K2, r2, S2, T2, tl2, rfl, hx2⟩
  refine z_swap ?_
  refine z_aload_n d_law_887 1 rfl ?_
  refine z_aload_n d_law_888 3 rfl ?_
  refine z_iload_n d_law_889 0 rfl ?_
  refine z_iconst (v := nI 1) d_law_890 (by decide) ?_
  refine z_iadd d_law_891 ?_
  refine z_sld (6 * k + 1) (lx (by omega) (by decide)) (by omega) d_law_892 ?_
  refine z_aload_n d_law_893 3 rfl ?_
  refine z_iload_n d_law_894 0 rfl ?_
  refine z_iconst (v := nI 2) d_law_895 (by decide) ?_
  refine z_iadd d_law_896 ?_
  refine z_sld (6 * k + 2) (lx (by omega) (by decide)) (by omega) d_law_897 ?_
  refine z_aload_n d_law_898 3 rfl ?_
  refine z_iload_n d_law_899 0 rfl ?_
  refine z_iconst (v := nI 3) d_law_900 (by decide) ?_
  refine z_iadd d_law_901 ?_
  refine z_sld (6 * k + 3) (lx (by omega) (by decide)) (by omega) d_law_902 ?_
  refine z_callVR 0 c_L_133 rfl rfl (t_X12_sheet G bb I A J tw (xs (6 * k + 1)) (xs (6 * k + 2)) (xs (6 * k + 3))) rfl rfl (Nat.le_of_ble_eq_true rfl) (rm_law (by decide) (by omega) (by omega)) d_law_903 ?_
  rintro v w1 ⟨rfl, rfl⟩
  refine z_swap ?_
  refine z_icmp_eq d_law_906 (fun _ => ?_) (fun q => absurd rfl q)
  refine z_widen (pc' := 0) (48 + 12 * (k + 1)) (2690 + 166 * (k + 1)) (by omega) (by omega) ?_
  exact kk _ _ _ _ _ _ _ _ _ _ _ hx2
set_option maxHeartbeats 8000000 in
set_option maxRecDepth 100000 in
theorem law_28 (G : GT) (x bb : Nat → Nat) (b L : Nat) (xs : Nat → Int32) (k : Nat) (hj : 6 * k + 6 ≤ L) (hk : k ≤ 511) (kk : ∀ (I : Nat → Int32) (A : Nat → Nat → Int32) (J : Nat → Int32) (tw : Int64) (N : Nat → Int32) (R : Nat → Nat → Int32) (K : Nat → Nat → Option Nat) (r : Nat → Nat) (S : Nat → Int32) (T : Nat → Nat → Int32) (tl : va_W), XRel G I A N R K r tl → Tr G mLAW room_1 (OLW b L xs) (48 + 12 * (k + 1)) (2690 + 166 * (k + 1)) 1103 [(3, .int (nI (6 * k))), (2, .ref (bb 0)), (1, .ref (x 0)), (0, .ref b)] [] (MW G bb I A J tw ++ XW G x N R K r S T tl)) (I : Nat → Int32) (A : Nat → Nat → Int32) (J : Nat → Int32) (tw : Int64) (N : Nat → Int32) (R : Nat → Nat → Int32) (K : Nat → Nat → Option Nat) (r : Nat → Nat) (S : Nat → Int32) (T : Nat → Nat → Int32) (tl : va_W) (hx : XRel G I A N R K r tl) :
    Tr G mLAW room_1 (OLW b L xs) (48 + 12 * k) (2690 + 166 * k) 911 [(3, .int (nI (6 * k))), (2, .ref (bb 0)), (1, .ref (x 0)), (0, .ref b)] [] (MW G bb I A J tw ++ XW G x N R K r S T tl) := by
  refine z_aload_n d_law_911 2 rfl ?_
  refine z_aload_n d_law_912 3 rfl ?_
  refine z_iload_n d_law_913 0 rfl ?_
  refine z_iconst (v := nI 1) d_law_914 (by decide) ?_
  refine z_iadd d_law_915 ?_
  refine z_sld (6 * k + 1) (lx (by omega) (by decide)) (by omega) d_law_916 ?_
  refine z_aload_n d_law_917 3 rfl ?_
  refine z_iload_n d_law_918 0 rfl ?_
  refine z_iconst (v := nI 2) d_law_919 (by decide) ?_
  refine z_iadd d_law_920 ?_
  refine z_sld (6 * k + 2) (lx (by omega) (by decide)) (by omega) d_law_921 ?_
  refine z_aload_n d_law_922 3 rfl ?_
  refine z_iload_n d_law_923 0 rfl ?_
  refine z_iconst (v := nI 3) d_law_924 (by decide) ?_
  refine z_iadd d_law_925 ?_
  refine z_sld (6 * k + 3) (lx (by omega) (by decide)) (by omega) d_law_926 ?_
  refine z_callVR 0 c_L_134 rfl rfl (t_X11_cell G x N R K r S T tl I A hx (xs (6 * k + 1)) (xs (6 * k + 2)) (xs (6 * k + 3))) rfl rfl (Nat.le_of_ble_eq_true rfl) (rm_law (by decide) (by omega) (by omega)) d_law_927 ?_
  rintro v w1 ⟨rfl, N2, R2, K2, r2, S2, T2, tl2, rfl, hx2⟩
  refine z_swap ?_
  refine z_aload_n d_law_930 1 rfl ?_
  refine z_aload_n d_law_931 3 rfl ?_
  refine z_iload_n d_law_932 0 rfl ?_
  refine z_iconst (v := nI 1) d_law_933 (by decide) ?_
  refine z_iadd d_law_934 ?_
  refine z_sld (6 * k + 1) (lx (by omega) (by decide)) (by omega) d_law_935 ?_
  refine z_aload_n d_law_936 3 rfl ?_
  refine z_iload_n d_law_937 0 rfl ?_
  refine z_iconst (v := nI 2) d_law_938 (by decide) ?_
  refine z_iadd d_law_939 ?_
  refine z_sld (6 * k + 2) (lx (by omega) (by decide)) (by omega) d_law_940 ?_
  refine z_aload_n d_law_941 3 rfl ?_
  refine z_iload_n d_law_942 0 rfl ?_
  refine z_iconst (v := nI 3) d_law_943 (by decide) ?_
  refine z_iadd d_law_944 ?_
  refine z_sld (6 * k + 3) (lx (by omega) (by decide)) (by omega) d_law_945 ?_
  refine z_callVR 0 c_L_137 rfl rfl (t_X12_cell G bb I A J tw (xs (6 * k + 1)) (xs (6 * k + 2)) (xs (6 * k + 3)) hx.shok) rfl rfl (Nat.le_of_ble_eq_true rfl) (rm_law (by decide) (by omega) (by omega)) d_law_946 ?_
  rintro v w1 ⟨rfl, rfl⟩
  refine z_swap ?_
  refine z_icmp_eq d_law_949 (fun _ => ?_) (fun q => absurd rfl q)
  refine z_widen (pc' := 0) (48 + 12 * (k + 1)) (2690 + 166 * (k + 1)) (by omega) (by omega) ?_
  exact kk _ _ _ _ _ _ _ _ _ _ _ hx2
set_option maxHeartbeats 8000000 in
set_option maxRecDepth 100000 in
theorem law_29 (G : GT) (x bb : Nat → Nat) (b L : Nat) (xs : Nat → Int32) (k : Nat) (hj : 6 * k + 6 ≤ L) (hk : k ≤ 511) (kk : ∀ (I : Nat → Int32) (A : Nat → Nat → Int32) (J : Nat → Int32) (tw : Int64) (N : Nat → Int32) (R : Nat → Nat → Int32) (K : Nat → Nat → Option Nat) (r : Nat → Nat) (S : Nat → Int32) (T : Nat → Nat → Int32) (tl : va_W), XRel G I A N R K r tl → Tr G mLAW room_1 (OLW b L xs) (48 + 12 * (k + 1)) (2690 + 166 * (k + 1)) 1103 [(3, .int (nI (6 * k))), (2, .ref (bb 0)), (1, .ref (x 0)), (0, .ref b)] [] (MW G bb I A J tw ++ XW G x N R K r S T tl)) (I : Nat → Int32) (A : Nat → Nat → Int32) (J : Nat → Int32) (tw : Int64) (N : Nat → Int32) (R : Nat → Nat → Int32) (K : Nat → Nat → Option Nat) (r : Nat → Nat) (S : Nat → Int32) (T : Nat → Nat → Int32) (tl : va_W) (hx : XRel G I A N R K r tl) :
    Tr G mLAW room_1 (OLW b L xs) (48 + 12 * k) (2690 + 166 * k) 954 [(3, .int (nI (6 * k))), (2, .ref (bb 0)), (1, .ref (x 0)), (0, .ref b)] [] (MW G bb I A J tw ++ XW G x N R K r S T tl) := by
  refine z_aload_n d_law_954 2 rfl ?_
  refine z_aload_n d_law_955 3 rfl ?_
  refine z_iload_n d_law_956 0 rfl ?_
  refine z_iconst (v := nI 1) d_law_957 (by decide) ?_
  refine z_iadd d_law_958 ?_
  refine z_sld (6 * k + 1) (lx (by omega) (by decide)) (by omega) d_law_959 ?_
  refine z_aload_n d_law_960 3 rfl ?_
  refine z_iload_n d_law_961 0 rfl ?_
  refine z_iconst (v := nI 2) d_law_962 (by decide) ?_
  refine z_iadd d_law_963 ?_
  refine z_sld (6 * k + 2) (lx (by omega) (by decide)) (by omega) d_law_964 ?_
  refine z_aload_n d_law_965 3 rfl ?_
  refine z_iload_n d_law_966 0 rfl ?_
  refine z_iconst (v := nI 3) d_law_967 (by decide) ?_
  refine z_iadd d_law_968 ?_
  refine z_sld (6 * k + 3) (lx (by omega) (by decide)) (by omega) d_law_969 ?_
  refine z_aload_n d_law_970 3 rfl ?_
  refine z_iload_n d_law_971 0 rfl ?_
  refine z_iconst (v := nI 4) d_law_972 (by decide) ?_
  refine z_iadd d_law_973 ?_
  refine z_sld (6 * k + 4) (lx (by omega) (by decide)) (by omega) d_law_974 ?_
  refine z_aload_n d_law_975 3 rfl ?_
  refine z_iload_n d_law_976 0 rfl ?_
  refine z_iconst (v := nI 5) d_law_977 (by decide) ?_
  refine z_iadd d_law_978 ?_
  refine z_sld (6 * k + 5) (lx (by omega) (by decide)) (by omega) d_law_979 ?_
  refine z_callVR 0 c_L_138 rfl rfl (t_X11_copy G x N R K r S T tl I A hx (xs (6 * k + 1)) (xs (6 * k + 2)) (xs (6 * k + 3)) (xs (6 * k + 4)) (xs (6 * k + 5))) rfl rfl (Nat.le_of_ble_eq_true rfl) (rm_law (by decide) (by omega) (by omega)) d_law_980 ?_
  rintro v w1 ⟨rfl, N2, R2, K2, r2, S2, T2, tl2, rfl, hx2⟩
  refine z_swap ?_
  refine z_aload_n d_law_983 1 rfl ?_
  refine z_aload_n d_law_984 3 rfl ?_
  refine z_iload_n d_law_985 0 rfl ?_
  refine z_iconst (v := nI 1) d_law_986 (by decide) ?_
  refine z_iadd d_law_987 ?_
  refine z_sld (6 * k + 1) (lx (by omega) (by decide)) (by omega) d_law_988 ?_
  refine z_aload_n d_law_989 3 rfl ?_
  refine z_iload_n d_law_990 0 rfl ?_
  refine z_iconst (v := nI 2) d_law_991 (by decide) ?_
  refine z_iadd d_law_992 ?_
  refine z_sld (6 * k + 2) (lx (by omega) (by decide)) (by omega) d_law_993 ?_
  refine z_aload_n d_law_994 3 rfl ?_
  refine z_iload_n d_law_995 0 rfl ?_
  refine z_iconst (v := nI 3) d_law_996 (by decide) ?_
  refine z_iadd d_law_997 ?_
  refine z_sld (6 * k + 3) (lx (by omega) (by decide)) (by omega) d_law_998 ?_
  refine z_aload_n d_law_999 3 rfl ?_
  refine z_iload_n d_law_1000 0 rfl ?_
  refine z_iconst (v := nI 4) d_law_1001 (by decide) ?_
  refine z_iadd d_law_1002 ?_
  refine z_sld (6 * k + 4) (lx (by omega) (by decide)) (by omega) d_law_1003 ?_
  refine z_aload_n d_law_1004 3 rfl ?_
  refine z_iload_n d_law_1005 0 rfl ?_
  refine z_iconst (v := nI 5) d_law_1006 (by decide) ?_
  refine z_iadd d_law_1007 ?_
  refine z_sld (6 * k + 5) (lx (by omega) (by decide)) (by omega) d_law_1008 ?_
  refine z_callVR 0 c_L_142 rfl rfl (t_X12_copy G bb I A J tw (xs (6 * k + 1)) (xs (6 * k + 2)) (xs (6 * k + 3)) (xs (6 * k + 4)) (xs (6 * k + 5)) hx.shok) rfl rfl (Nat.le_of_ble_eq_true rfl) (rm_law (by decide) (by omega) (by omega)) d_law_1009 ?_
  rintro v w1 ⟨rfl, rfl⟩
  refine z_swap ?_
  refine z_icmp_eq d_law_1012 (fun _ => ?_) (fun q => absurd rfl q)
  refine z_widen (pc' := 0) (48 + 12 * (k + 1)) (2690 + 166 * (k + 1)) (by omega) (by omega) ?_
  exact kk _ _ _ _ _ _ _ _ _ _ _ hx2
set_option maxHeartbeats 8000000 in
set_option maxRecDepth 100000 in
theorem law_30 (G : GT) (x bb : Nat → Nat) (b L : Nat) (xs : Nat → Int32) (k : Nat) (hj : 6 * k + 6 ≤ L) (hk : k ≤ 511) (kk : ∀ (I : Nat → Int32) (A : Nat → Nat → Int32) (J : Nat → Int32) (tw : Int64) (N : Nat → Int32) (R : Nat → Nat → Int32) (K : Nat → Nat → Option Nat) (r : Nat → Nat) (S : Nat → Int32) (T : Nat → Nat → Int32) (tl : va_W), XRel G I A N R K r tl → Tr G mLAW room_1 (OLW b L xs) (48 + 12 * (k + 1)) (2690 + 166 * (k + 1)) 1103 [(3, .int (nI (6 * k))), (2, .ref (bb 0)), (1, .ref (x 0)), (0, .ref b)] [] (MW G bb I A J tw ++ XW G x N R K r S T tl)) (I : Nat → Int32) (A : Nat → Nat → Int32) (J : Nat → Int32) (tw : Int64) (N : Nat → Int32) (R : Nat → Nat → Int32) (K : Nat → Nat → Option Nat) (r : Nat → Nat) (S : Nat → Int32) (T : Nat → Nat → Int32) (tl : va_W) (hx : XRel G I A N R K r tl) :
    Tr G mLAW room_1 (OLW b L xs) (48 + 12 * k) (2690 + 166 * k) 1017 [(3, .int (nI (6 * k))), (2, .ref (bb 0)), (1, .ref (x 0)), (0, .ref b)] [] (MW G bb I A J tw ++ XW G x N R K r S T tl) := by
  refine z_aload_n d_law_1017 2 rfl ?_
  refine z_aload_n d_law_1018 3 rfl ?_
  refine z_iload_n d_law_1019 0 rfl ?_
  refine z_iconst (v := nI 1) d_law_1020 (by decide) ?_
  refine z_iadd d_law_1021 ?_
  refine z_sld (6 * k + 1) (lx (by omega) (by decide)) (by omega) d_law_1022 ?_
  refine z_aload_n d_law_1023 3 rfl ?_
  refine z_iload_n d_law_1024 0 rfl ?_
  refine z_iconst (v := nI 2) d_law_1025 (by decide) ?_
  refine z_iadd d_law_1026 ?_
  refine z_sld (6 * k + 2) (lx (by omega) (by decide)) (by omega) d_law_1027 ?_
  refine z_aload_n d_law_1028 3 rfl ?_
  refine z_iload_n d_law_1029 0 rfl ?_
  refine z_iconst (v := nI 3) d_law_1030 (by decide) ?_
  refine z_iadd d_law_1031 ?_
  refine z_sld (6 * k + 3) (lx (by omega) (by decide)) (by omega) d_law_1032 ?_
  refine z_aload_n d_law_1033 3 rfl ?_
  refine z_iload_n d_law_1034 0 rfl ?_
  refine z_iconst (v := nI 4) d_law_1035 (by decide) ?_
  refine z_iadd d_law_1036 ?_
  refine z_sld (6 * k + 4) (lx (by omega) (by decide)) (by omega) d_law_1037 ?_
  refine z_callVR 0 c_L_143 rfl rfl (t_X11_strips G x N R K r S T tl I A hx (xs (6 * k + 1)) (xs (6 * k + 2)) (xs (6 * k + 3)) (xs (6 * k + 4))) rfl rfl (Nat.le_of_ble_eq_true rfl) (rm_law (by decide) (by omega) (by omega)) d_law_1038 ?_
  rintro v w1 ⟨rfl, N2, R2, K2, r2, S2, T2, tl2, rfl, hx2⟩
  refine z_swap ?_
  refine z_aload_n d_law_1041 1 rfl ?_
  refine z_aload_n d_law_1042 3 rfl ?_
  refine z_iload_n d_law_1043 0 rfl ?_
  refine z_iconst (v := nI 1) d_law_1044 (by decide) ?_
  refine z_iadd d_law_1045 ?_
  refine z_sld (6 * k + 1) (lx (by omega) (by decide)) (by omega) d_law_1046 ?_
  refine z_aload_n d_law_1047 3 rfl ?_
  refine z_iload_n d_law_1048 0 rfl ?_
  refine z_iconst (v := nI 2) d_law_1049 (by decide) ?_
  refine z_iadd d_law_1050 ?_
  refine z_sld (6 * k + 2) (lx (by omega) (by decide)) (by omega) d_law_1051 ?_
  refine z_aload_n d_law_1052 3 rfl ?_
  refine z_iload_n d_law_1053 0 rfl ?_
  refine z_iconst (v := nI 3) d_law_1054 (by decide) ?_
  refine z_iadd d_law_1055 ?_
  refine z_sld (6 * k + 3) (lx (by omega) (by decide)) (by omega) d_law_1056 ?_
  refine z_aload_n d_law_1057 3 rfl ?_
  refine z_iload_n d_law_1058 0 rfl ?_
  refine z_iconst (v := nI 4) d_law_1059 (by decide) ?_
  refine z_iadd d_law_1060 ?_
  refine z_sld (6 * k + 4) (lx (by omega) (by decide)) (by omega) d_law_1061 ?_
  refine z_callVR 0 c_L_146 rfl rfl (t_X12_strips G bb I A J tw (xs (6 * k + 1)) (xs (6 * k + 2)) (xs (6 * k + 3)) (xs (6 * k + 4)) hx.shok) rfl rfl (Nat.le_of_ble_eq_true rfl) (rm_law (by decide) (by omega) (by omega)) d_law_1062 ?_
  rintro v w1 ⟨rfl, rfl⟩
  refine z_swap ?_
  refine z_icmp_eq d_law_1065 (fun _ => ?_) (fun q => absurd rfl q)
  refine z_widen (pc' := 0) (48 + 12 * (k + 1)) (2690 + 166 * (k + 1)) (by omega) (by omega) ?_
  exact kk _ _ _ _ _ _ _ _ _ _ _ hx2
set_option maxHeartbeats 8000000 in
set_option maxRecDepth 100000 in
theorem law_31 (G : GT) (x bb : Nat → Nat) (b L : Nat) (xs : Nat → Int32) (k : Nat) (hj : 6 * k + 6 ≤ L) (hk : k ≤ 511) (kk : ∀ (I : Nat → Int32) (A : Nat → Nat → Int32) (J : Nat → Int32) (tw : Int64) (N : Nat → Int32) (R : Nat → Nat → Int32) (K : Nat → Nat → Option Nat) (r : Nat → Nat) (S : Nat → Int32) (T : Nat → Nat → Int32) (tl : va_W), XRel G I A N R K r tl → Tr G mLAW room_1 (OLW b L xs) (48 + 12 * (k + 1)) (2690 + 166 * (k + 1)) 1103 [(3, .int (nI (6 * k))), (2, .ref (bb 0)), (1, .ref (x 0)), (0, .ref b)] [] (MW G bb I A J tw ++ XW G x N R K r S T tl)) (I : Nat → Int32) (A : Nat → Nat → Int32) (J : Nat → Int32) (tw : Int64) (N : Nat → Int32) (R : Nat → Nat → Int32) (K : Nat → Nat → Option Nat) (r : Nat → Nat) (S : Nat → Int32) (T : Nat → Nat → Int32) (tl : va_W) (hx : XRel G I A N R K r tl) :
    Tr G mLAW room_1 (OLW b L xs) (48 + 12 * k) (2690 + 166 * k) 1070 [(3, .int (nI (6 * k))), (2, .ref (bb 0)), (1, .ref (x 0)), (0, .ref b)] [] (MW G bb I A J tw ++ XW G x N R K r S T tl) := by
  refine z_aload_n d_law_1070 2 rfl ?_
  refine z_aload_n d_law_1071 3 rfl ?_
  refine z_iload_n d_law_1072 0 rfl ?_
  refine z_iconst (v := nI 1) d_law_1073 (by decide) ?_
  refine z_iadd d_law_1074 ?_
  refine z_sld (6 * k + 1) (lx (by omega) (by decide)) (by omega) d_law_1075 ?_
  refine z_aload_n d_law_1076 3 rfl ?_
  refine z_iload_n d_law_1077 0 rfl ?_
  refine z_iconst (v := nI 2) d_law_1078 (by decide) ?_
  refine z_iadd d_law_1079 ?_
  refine z_sld (6 * k + 2) (lx (by omega) (by decide)) (by omega) d_law_1080 ?_
  refine z_callVR 0 c_L_147 rfl rfl (t_X11_taken G x N R K r S T tl I A hx (xs (6 * k + 1)) (xs (6 * k + 2))) rfl rfl (Nat.le_of_ble_eq_true rfl) (rm_law (by decide) (by omega) (by omega)) d_law_1081 ?_
  rintro v w1 ⟨rfl, N2, R2, K2, r2, S2, T2, tl2, rfl, hx2⟩
  refine z_swap ?_
  refine z_aload_n d_law_1084 1 rfl ?_
  refine z_aload_n d_law_1085 3 rfl ?_
  refine z_iload_n d_law_1086 0 rfl ?_
  refine z_iconst (v := nI 1) d_law_1087 (by decide) ?_
  refine z_iadd d_law_1088 ?_
  refine z_sld (6 * k + 1) (lx (by omega) (by decide)) (by omega) d_law_1089 ?_
  refine z_aload_n d_law_1090 3 rfl ?_
  refine z_iload_n d_law_1091 0 rfl ?_
  refine z_iconst (v := nI 2) d_law_1092 (by decide) ?_
  refine z_iadd d_law_1093 ?_
  refine z_sld (6 * k + 2) (lx (by omega) (by decide)) (by omega) d_law_1094 ?_
  refine z_callVR 0 c_L_150 rfl rfl (t_X12_taken G bb I A J tw (xs (6 * k + 1)) (xs (6 * k + 2))) rfl rfl (Nat.le_of_ble_eq_true rfl) (rm_law (by decide) (by omega) (by omega)) d_law_1095 ?_
  rintro v w1 ⟨rfl, rfl⟩
  refine z_swap ?_
  refine z_icmp_eq d_law_1098 (fun _ => ?_) (fun q => absurd rfl q)
  refine z_widen (pc' := 0) (48 + 12 * (k + 1)) (2690 + 166 * (k + 1)) (by omega) (by omega) ?_
  exact kk _ _ _ _ _ _ _ _ _ _ _ hx2
theorem nI_6 (k : Nat) : nI (6 * k) + Int32.ofInt 6 = nI (6 * (k + 1)) := by
  show Int32.ofNat (6 * k) + 6 = Int32.ofNat (6 * k + 6)
  rw [Int32.ofNat_add]; rfl
set_option maxHeartbeats 8000000 in
set_option maxRecDepth 100000 in
theorem law_turn (G : GT) (x bb : Nat → Nat) (b L : Nat) (xs : Nat → Int32) (k : Nat) (hj : 6 * k + 6 ≤ L) (hk : k ≤ 511) (kk : ∀ (I : Nat → Int32) (A : Nat → Nat → Int32) (J : Nat → Int32) (tw : Int64) (N : Nat → Int32) (R : Nat → Nat → Int32) (K : Nat → Nat → Option Nat) (r : Nat → Nat) (S : Nat → Int32) (T : Nat → Nat → Int32) (tl : va_W), XRel G I A N R K r tl → Tr G mLAW room_1 (OLW b L xs) (48 + 12 * (k + 1)) (2690 + 166 * (k + 1)) 1103 [(3, .int (nI (6 * k))), (2, .ref (bb 0)), (1, .ref (x 0)), (0, .ref b)] [] (MW G bb I A J tw ++ XW G x N R K r S T tl)) (I : Nat → Int32) (A : Nat → Nat → Int32) (J : Nat → Int32) (tw : Int64) (N : Nat → Int32) (R : Nat → Nat → Int32) (K : Nat → Nat → Option Nat) (r : Nat → Nat) (S : Nat → Int32) (T : Nat → Nat → Int32) (tl : va_W) (hx : XRel G I A N R K r tl) :
    Tr G mLAW room_1 (OLW b L xs) (48 + 12 * k) (2690 + 166 * k) 27 [(3, .int (nI (6 * k))), (2, .ref (bb 0)), (1, .ref (x 0)), (0, .ref b)] [] (MW G bb I A J tw ++ XW G x N R K r S T tl) := by
  refine z_aload_n d_law_27 3 rfl ?_
  refine z_iload_n d_law_28 0 rfl ?_
  refine z_sld (6 * k) (nI_toInt (by omega)) (by omega) d_law_29 ?_
  refine z_bipush (v := 31) d_law_30 (by decide) ?_
  refine z_iand d_law_32 ?_
  generalize xs (6 * k) &&& 31 = sel
  by_cases s0 : sel.toInt = 0
  · refine z_swIn (tgt := 176) (off := 143) d_law_33 s0 (by decide) (by decide) (by decide) (by decide) ?_
    exact law_0 G x bb b L xs k hj hk kk I A J tw N R K r S T tl hx
  by_cases s1 : sel.toInt = 1
  · refine z_swIn (tgt := 219) (off := 186) d_law_33 s1 (by decide) (by decide) (by decide) (by decide) ?_
    exact law_1 G x bb b L xs k hj hk kk I A J tw N R K r S T tl hx
  by_cases s2 : sel.toInt = 2
  · refine z_swIn (tgt := 242) (off := 209) d_law_33 s2 (by decide) (by decide) (by decide) (by decide) ?_
    exact law_2 G x bb b L xs k hj hk kk I A J tw N R K r S T tl hx
  by_cases s3 : sel.toInt = 3
  · refine z_swIn (tgt := 265) (off := 232) d_law_33 s3 (by decide) (by decide) (by decide) (by decide) ?_
    exact law_3 G x bb b L xs k hj hk kk I A J tw N R K r S T tl hx
  by_cases s4 : sel.toInt = 4
  · refine z_swIn (tgt := 288) (off := 255) d_law_33 s4 (by decide) (by decide) (by decide) (by decide) ?_
    exact law_4 G x bb b L xs k hj hk kk I A J tw N R K r S T tl hx
  by_cases s5 : sel.toInt = 5
  · refine z_swIn (tgt := 321) (off := 288) d_law_33 s5 (by decide) (by decide) (by decide) (by decide) ?_
    exact law_5 G x bb b L xs k hj hk kk I A J tw N R K r S T tl hx
  by_cases s6 : sel.toInt = 6
  · refine z_swIn (tgt := 344) (off := 311) d_law_33 s6 (by decide) (by decide) (by decide) (by decide) ?_
    exact law_6 G x bb b L xs k hj hk kk I A J tw N R K r S T tl hx
  by_cases s7 : sel.toInt = 7
  · refine z_swIn (tgt := 407) (off := 374) d_law_33 s7 (by decide) (by decide) (by decide) (by decide) ?_
    exact law_7 G x bb b L xs k hj hk kk I A J tw N R K r S T tl hx
  by_cases s8 : sel.toInt = 8
  · refine z_swIn (tgt := 420) (off := 387) d_law_33 s8 (by decide) (by decide) (by decide) (by decide) ?_
    exact law_8 G x bb b L xs k hj hk kk I A J tw N R K r S T tl hx
  by_cases s9 : sel.toInt = 9
  · refine z_swIn (tgt := 443) (off := 410) d_law_33 s9 (by decide) (by decide) (by decide) (by decide) ?_
    exact law_9 G x bb b L xs k hj hk kk I A J tw N R K r S T tl hx
  by_cases s10 : sel.toInt = 10
  · refine z_swIn (tgt := 486) (off := 453) d_law_33 s10 (by decide) (by decide) (by decide) (by decide) ?_
    exact law_10 G x bb b L xs k hj hk kk I A J tw N R K r S T tl hx
  by_cases s11 : sel.toInt = 11
  · refine z_swIn (tgt := 519) (off := 486) d_law_33 s11 (by decide) (by decide) (by decide) (by decide) ?_
    exact law_11 G x bb b L xs k hj hk kk I A J tw N R K r S T tl hx
  by_cases s12 : sel.toInt = 12
  · refine z_swIn (tgt := 532) (off := 499) d_law_33 s12 (by decide) (by decide) (by decide) (by decide) ?_
    exact law_12 G x bb b L xs k hj hk kk I A J tw N R K r S T tl hx
  by_cases s13 : sel.toInt = 13
  · refine z_swIn (tgt := 565) (off := 532) d_law_33 s13 (by decide) (by decide) (by decide) (by decide) ?_
    exact law_13 G x bb b L xs k hj hk kk I A J tw N R K r S T tl hx
  by_cases s14 : sel.toInt = 14
  · refine z_swIn (tgt := 589) (off := 556) d_law_33 s14 (by decide) (by decide) (by decide) (by decide) ?_
    exact law_14 G x bb b L xs k hj hk kk I A J tw N R K r S T tl hx
  by_cases s15 : sel.toInt = 15
  · refine z_swIn (tgt := 612) (off := 579) d_law_33 s15 (by decide) (by decide) (by decide) (by decide) ?_
    exact law_15 G x bb b L xs k hj hk kk I A J tw N R K r S T tl hx
  by_cases s16 : sel.toInt = 16
  · refine z_swIn (tgt := 645) (off := 612) d_law_33 s16 (by decide) (by decide) (by decide) (by decide) ?_
    exact law_16 G x bb b L xs k hj hk kk I A J tw N R K r S T tl hx
  by_cases s17 : sel.toInt = 17
  · refine z_swIn (tgt := 698) (off := 665) d_law_33 s17 (by decide) (by decide) (by decide) (by decide) ?_
    exact law_17 G x bb b L xs k hj hk kk I A J tw N R K r S T tl hx
  by_cases s18 : sel.toInt = 18
  · refine z_swIn (tgt := 711) (off := 678) d_law_33 s18 (by decide) (by decide) (by decide) (by decide) ?_
    exact law_18 G x bb b L xs k hj hk kk I A J tw N R K r S T tl hx
  by_cases s19 : sel.toInt = 19
  · refine z_swIn (tgt := 724) (off := 691) d_law_33 s19 (by decide) (by decide) (by decide) (by decide) ?_
    exact law_19 G x bb b L xs k hj hk kk I A J tw N R K r S T tl hx
  by_cases s20 : sel.toInt = 20
  · refine z_swIn (tgt := 737) (off := 704) d_law_33 s20 (by decide) (by decide) (by decide) (by decide) ?_
    exact law_20 G x bb b L xs k hj hk kk I A J tw N R K r S T tl hx
  by_cases s21 : sel.toInt = 21
  · refine z_swIn (tgt := 760) (off := 727) d_law_33 s21 (by decide) (by decide) (by decide) (by decide) ?_
    exact law_21 G x bb b L xs k hj hk kk I A J tw N R K r S T tl hx
  by_cases s22 : sel.toInt = 22
  · refine z_swIn (tgt := 773) (off := 740) d_law_33 s22 (by decide) (by decide) (by decide) (by decide) ?_
    exact law_22 G x bb b L xs k hj hk kk I A J tw N R K r S T tl hx
  by_cases s23 : sel.toInt = 23
  · refine z_swIn (tgt := 806) (off := 773) d_law_33 s23 (by decide) (by decide) (by decide) (by decide) ?_
    exact law_23 G x bb b L xs k hj hk kk I A J tw N R K r S T tl hx
  by_cases s24 : sel.toInt = 24
  · refine z_swIn (tgt := 819) (off := 786) d_law_33 s24 (by decide) (by decide) (by decide) (by decide) ?_
    exact law_24 G x bb b L xs k hj hk kk I A J tw N R K r S T tl hx
  by_cases s25 : sel.toInt = 25
  · refine z_swIn (tgt := 832) (off := 799) d_law_33 s25 (by decide) (by decide) (by decide) (by decide) ?_
    exact law_25 G x bb b L xs k hj hk kk I A J tw N R K r S T tl hx
  by_cases s26 : sel.toInt = 26
  · refine z_swIn (tgt := 845) (off := 812) d_law_33 s26 (by decide) (by decide) (by decide) (by decide) ?_
    exact law_26 G x bb b L xs k hj hk kk I A J tw N R K r S T tl hx
  by_cases s27 : sel.toInt = 27
  · refine z_swIn (tgt := 868) (off := 835) d_law_33 s27 (by decide) (by decide) (by decide) (by decide) ?_
    exact law_27 G x bb b L xs k hj hk kk I A J tw N R K r S T tl hx
  by_cases s28 : sel.toInt = 28
  · refine z_swIn (tgt := 911) (off := 878) d_law_33 s28 (by decide) (by decide) (by decide) (by decide) ?_
    exact law_28 G x bb b L xs k hj hk kk I A J tw N R K r S T tl hx
  by_cases s29 : sel.toInt = 29
  · refine z_swIn (tgt := 954) (off := 921) d_law_33 s29 (by decide) (by decide) (by decide) (by decide) ?_
    exact law_29 G x bb b L xs k hj hk kk I A J tw N R K r S T tl hx
  by_cases s30 : sel.toInt = 30
  · refine z_swIn (tgt := 1017) (off := 984) d_law_33 s30 (by decide) (by decide) (by decide) (by decide) ?_
    exact law_30 G x bb b L xs k hj hk kk I A J tw N R K r S T tl hx
  by_cases s31 : sel.toInt = 31
  · refine z_swIn (tgt := 1070) (off := 1037) d_law_33 s31 (by decide) (by decide) (by decide) (by decide) ?_
    exact law_31 G x bb b L xs k hj hk kk I A J tw N R K r S T tl hx
  refine z_swOut (tgt := 1103) d_law_33 (by omega) (by decide) ?_
  refine z_widen (pc' := 0) (48 + 12 * (k + 1)) (2690 + 166 * (k + 1)) (by omega) (by omega) ?_
  exact kk I A J tw N R K r S T tl hx
set_option maxHeartbeats 8000000 in
set_option maxRecDepth 100000 in
theorem law_loop (G : GT) (x bb : Nat → Nat) (b L : Nat) (xs : Nat → Int32) (hL : L ≤ 3072) : ∀ (n k : Nat), 6 * k ≤ L → L + 6 < 6 * k + 6 * n → ∀ (I : Nat → Int32) (A : Nat → Nat → Int32) (J : Nat → Int32) (tw : Int64) (N : Nat → Int32) (R : Nat → Nat → Int32) (K : Nat → Nat → Option Nat) (r : Nat → Nat) (S : Nat → Int32) (T : Nat → Nat → Int32) (tl : va_W), XRel G I A N R K r tl →
    Tr G mLAW room_1 (OLW b L xs) (48 + 12 * k) (2690 + 166 * k) 18 [(3, .int (nI (6 * k))), (2, .ref (bb 0)), (1, .ref (x 0)), (0, .ref b)] [] (MW G bb I A J tw ++ XW G x N R K r S T tl) := by
  intro n
  induction n with
  | zero => intro k h1 h2; omega
  | succ n ih =>
    intro k h1 h2 I A J tw N R K r S T tl hx
    refine z_iload_n d_law_18 0 rfl ?_
    refine z_aload_n d_law_19 3 rfl ?_
    refine z_slen d_law_20 ?_
    refine z_bipush (v := 6) d_law_21 (by decide) ?_
    refine z_isub d_law_23 ?_
    have e : (nI L - 6).toInt = (L : Int) - 6 := by
      rw [sub_i (by rw [nI_toInt (by omega), show (6 : Int32).toInt = 6 from rfl]; omega) (by rw [nI_toInt (by omega), show (6 : Int32).toInt = 6 from rfl]; omega), nI_toInt (by omega)]; rfl
    refine z_icmp_gt d_law_24 (fun _ => ?_) (fun q => ?_)
    · refine z_widen (pc' := 0) 966902 6201541 (by omega) (by omega) ?_
      refine z_iconst (v := 1) d_law_1109 (by decide) ?_
      exact z_lawret d_law_1110
    · have hj : 6 * k + 6 ≤ L := by
        rw [lt_i, e, nI_toInt (by omega)] at q
        omega
      refine law_turn G x bb b L xs k hj (by omega) ?_ I A J tw N R K r S T tl hx
      intro I A J tw N R K r S T tl hx
      refine z_iinc (nI (6 * (k + 1))) [(3, .int (nI (6 * (k + 1)))), (2, .ref (bb 0)), (1, .ref (x 0)), (0, .ref b)] 0 d_law_1103 rfl ?_ (by decide) rfl ?_
      · have e6 := nI_6 k
        exact e6
      · refine z_goto d_law_1106 ?_
        exact ih (k + 1) (by omega) (by omega) I A J tw N R K r S T tl hx
