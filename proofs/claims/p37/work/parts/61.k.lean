set_option maxHeartbeats 4000000 in
set_option maxRecDepth 100000 in
theorem lk_0 {L : Nat} {xs : Nat → Int32} {i : Int} (hL : L ≤ 3072) (h0 : 0 ≤ i) (h1 : i + 5 < L) (K : ∀ h, LI h → m_Y (xL L xs) oF M_law 1488 [some (mO 41), some (mR 0), some (mR 108), some (mI i)] [] h Ql) (h : m_H) (I : LI h) : m_Y (xL L xs) oF M_law 208 [some (mO 41), some (mR 0), some (mR 108), some (mI i)] [] h Ql := by
  obtain ⟨G0, N0, T0, LX0, DR0⟩ := I
  refine y_aload_n (M := M_law) 208 dL_law_208 rfl ?_
  refine y_aload_nO (M := M_law) 209 dL_law_209 rfl ?_
  refine y_iload_n (M := M_law) 210 dL_law_210 rfl ?_
  refine y_iconst (M := M_law) 211 dL_law_211 ?_
  refine y_iaddN (M := M_law) 212 dL_law_212 (by omega) (by omega) ?_
  refine y_sld (M := M_law) 213 dL_law_213 (by omega) (by omega) ?_
  refine y_aload_nO (M := M_law) 214 dL_law_214 rfl ?_
  refine y_iload_n (M := M_law) 215 dL_law_215 rfl ?_
  refine y_iconst (M := M_law) 216 dL_law_216 ?_
  refine y_iaddN (M := M_law) 217 dL_law_217 (by omega) (by omega) ?_
  refine y_sld (M := M_law) 218 dL_law_218 (by omega) (by omega) ?_
  refine y_vI (M := M_law) 219 dL_law_219 t_X11_week ll_13 (m_rr_of rfl) (rest := []) (c_X11_week3 h (sc xs (i + 1)) (sc xs (i + 2)) G0) o_0 rfl rfl rfl (Nat.le_of_ble_eq_true rfl) ⟨rfl, rfl⟩ (fun x1 h1 q1 => ?_)
  obtain ⟨G1, S1, p1_0⟩ := q1
  have N1 := NP.call N0 S1 (fun _ => rfl) (fun _ => rfl) (fun _ => rfl)
  have u1 : h1 108 8 = h 108 8 := S1 108 8 rfl
  have w1 : h1 35 1 = h 35 1 := S1 35 1 rfl
  have DR1 := DR0.cls S1 (by decide) ⟨rfl, rfl, rfl⟩ (by decide)
  refine y_pop (M := M_law) 222 dL_law_222 rfl ?_
  refine y_aload_n (M := M_law) 223 dL_law_223 rfl ?_
  refine y_aload_nO (M := M_law) 224 dL_law_224 rfl ?_
  refine y_iload_n (M := M_law) 225 dL_law_225 rfl ?_
  refine y_iconst (M := M_law) 226 dL_law_226 ?_
  refine y_iaddN (M := M_law) 227 dL_law_227 (by omega) (by omega) ?_
  refine y_sld (M := M_law) 228 dL_law_228 (by omega) (by omega) ?_
  refine y_aload_nO (M := M_law) 229 dL_law_229 rfl ?_
  refine y_iload_n (M := M_law) 230 dL_law_230 rfl ?_
  refine y_iconst (M := M_law) 231 dL_law_231 ?_
  refine y_iaddN (M := M_law) 232 dL_law_232 (by omega) (by omega) ?_
  refine y_sld (M := M_law) 233 dL_law_233 (by omega) (by omega) ?_
  refine y_vI (M := M_law) 234 dL_law_234 t_X12_week ll_17 (m_rr_of rfl) (rest := []) (c_X12_week3 h1 (sc xs (i + 1)) (sc xs (i + 2)) G1) o_108 rfl rfl rfl (Nat.le_of_ble_eq_true rfl) ⟨rfl, rfl⟩ (fun x2 h2 q2 => ?_)
  obtain ⟨G2, S2, p2_0, p2_1⟩ := q2
  have N2 := p2_1.1 N1
  have u2 : h2 108 8 = h1 108 8 := S2 108 8 rfl
  have w2 : h2 35 1 = h1 35 1 := S2 35 1 rfl
  obtain ⟨L2_, exy⟩ := both LX0.2.1 p1_0 p2_0 S1 S2 (fun _ => rfl) (by decide)
  have LX2 := LX0.mut S1 S2 L2_ (by decide) (by decide) (by decide) (by decide) (by decide) (by decide)
  have DR2 := DR1.cls S2 (by decide) ⟨rfl, rfl, rfl⟩ (by decide)
  refine y_pop (M := M_law) 237 dL_law_237 rfl ?_
  refine y_goto (M := M_law) 238 dL_law_238 1488 rfl ?_
  exact K h2 ⟨G2, N2, by omega, LX2, DR2⟩
set_option maxHeartbeats 4000000 in
set_option maxRecDepth 100000 in
theorem lk_1 {L : Nat} {xs : Nat → Int32} {i : Int} (hL : L ≤ 3072) (h0 : 0 ≤ i) (h1 : i + 5 < L) (K : ∀ h, LI h → m_Y (xL L xs) oF M_law 1488 [some (mO 41), some (mR 0), some (mR 108), some (mI i)] [] h Ql) (h : m_H) (I : LI h) : m_Y (xL L xs) oF M_law 241 [some (mO 41), some (mR 0), some (mR 108), some (mI i)] [] h Ql := by
  obtain ⟨G0, N0, T0, LX0, DR0⟩ := I
  refine y_aload_n (M := M_law) 241 dL_law_241 rfl ?_
  refine y_aload_nO (M := M_law) 242 dL_law_242 rfl ?_
  refine y_iload_n (M := M_law) 243 dL_law_243 rfl ?_
  refine y_iconst (M := M_law) 244 dL_law_244 ?_
  refine y_iaddN (M := M_law) 245 dL_law_245 (by omega) (by omega) ?_
  refine y_sld (M := M_law) 246 dL_law_246 (by omega) (by omega) ?_
  refine y_aload_nO (M := M_law) 247 dL_law_247 rfl ?_
  refine y_iload_n (M := M_law) 248 dL_law_248 rfl ?_
  refine y_iconst (M := M_law) 249 dL_law_249 ?_
  refine y_iaddN (M := M_law) 250 dL_law_250 (by omega) (by omega) ?_
  refine y_sld (M := M_law) 251 dL_law_251 (by omega) (by omega) ?_
  refine y_vI (M := M_law) 252 dL_law_252 t_X11_cut ll_18 (m_rr_of rfl) (rest := []) (c_X11_cut3 h (sc xs (i + 1)) (sc xs (i + 2)) G0) o_0 rfl rfl rfl (Nat.le_of_ble_eq_true rfl) ⟨rfl, rfl⟩ (fun x1 h1 q1 => ?_)
  obtain ⟨G1, S1, p1_0⟩ := q1
  have N1 := NP.call N0 S1 (fun _ => rfl) (fun _ => rfl) (fun _ => rfl)
  have u1 : h1 108 8 = h 108 8 := S1 108 8 rfl
  have w1 : h1 35 1 = h 35 1 := S1 35 1 rfl
  have DR1 := DR0.cls S1 (by decide) ⟨rfl, rfl, rfl⟩ (by decide)
  refine y_pop (M := M_law) 255 dL_law_255 rfl ?_
  refine y_aload_n (M := M_law) 256 dL_law_256 rfl ?_
  refine y_aload_nO (M := M_law) 257 dL_law_257 rfl ?_
  refine y_iload_n (M := M_law) 258 dL_law_258 rfl ?_
  refine y_iconst (M := M_law) 259 dL_law_259 ?_
  refine y_iaddN (M := M_law) 260 dL_law_260 (by omega) (by omega) ?_
  refine y_sld (M := M_law) 261 dL_law_261 (by omega) (by omega) ?_
  refine y_aload_nO (M := M_law) 262 dL_law_262 rfl ?_
  refine y_iload_n (M := M_law) 263 dL_law_263 rfl ?_
  refine y_iconst (M := M_law) 264 dL_law_264 ?_
  refine y_iaddN (M := M_law) 265 dL_law_265 (by omega) (by omega) ?_
  refine y_sld (M := M_law) 266 dL_law_266 (by omega) (by omega) ?_
  refine y_vI (M := M_law) 267 dL_law_267 t_X12_cut ll_21 (m_rr_of rfl) (rest := []) (c_X12_cut3 h1 (sc xs (i + 1)) (sc xs (i + 2)) G1) o_108 rfl rfl rfl (Nat.le_of_ble_eq_true rfl) ⟨rfl, rfl⟩ (fun x2 h2 q2 => ?_)
  obtain ⟨G2, S2, p2_0, p2_1⟩ := q2
  have N2 := p2_1.1 N1
  have u2 : h2 108 8 = h1 108 8 := S2 108 8 rfl
  have w2 : h2 35 1 = h1 35 1 := S2 35 1 rfl
  obtain ⟨L2_, exy⟩ := both LX0.2.1 p1_0 p2_0 S1 S2 (fun _ => rfl) (by decide)
  have LX2 := LX0.mut S1 S2 L2_ (by decide) (by decide) (by decide) (by decide) (by decide) (by decide)
  have DR2 := DR1.cls S2 (by decide) ⟨rfl, rfl, rfl⟩ (by decide)
  refine y_pop (M := M_law) 270 dL_law_270 rfl ?_
  refine y_goto (M := M_law) 271 dL_law_271 1488 rfl ?_
  exact K h2 ⟨G2, N2, by omega, LX2, DR2⟩
set_option maxHeartbeats 4000000 in
set_option maxRecDepth 100000 in
theorem lk_2 {L : Nat} {xs : Nat → Int32} {i : Int} (hL : L ≤ 3072) (h0 : 0 ≤ i) (h1 : i + 5 < L) (K : ∀ h, LI h → m_Y (xL L xs) oF M_law 1488 [some (mO 41), some (mR 0), some (mR 108), some (mI i)] [] h Ql) (h : m_H) (I : LI h) : m_Y (xL L xs) oF M_law 274 [some (mO 41), some (mR 0), some (mR 108), some (mI i)] [] h Ql := by
  obtain ⟨G0, N0, T0, LX0, DR0⟩ := I
  refine y_aload_n (M := M_law) 274 dL_law_274 rfl ?_
  refine y_aload_nO (M := M_law) 275 dL_law_275 rfl ?_
  refine y_iload_n (M := M_law) 276 dL_law_276 rfl ?_
  refine y_iconst (M := M_law) 277 dL_law_277 ?_
  refine y_iaddN (M := M_law) 278 dL_law_278 (by omega) (by omega) ?_
  refine y_sld (M := M_law) 279 dL_law_279 (by omega) (by omega) ?_
  refine y_aload_nO (M := M_law) 280 dL_law_280 rfl ?_
  refine y_iload_n (M := M_law) 281 dL_law_281 rfl ?_
  refine y_iconst (M := M_law) 282 dL_law_282 ?_
  refine y_iaddN (M := M_law) 283 dL_law_283 (by omega) (by omega) ?_
  refine y_sld (M := M_law) 284 dL_law_284 (by omega) (by omega) ?_
  refine y_vI (M := M_law) 285 dL_law_285 t_X11_shorter ll_22 (m_rr_of rfl) (rest := []) (c_X11_shorter3 h (sc xs (i + 1)) (sc xs (i + 2)) (h 110) G0 LX0.2.1) o_0 rfl rfl rfl (Nat.le_of_ble_eq_true rfl) ⟨rfl, rfl⟩ (fun x1 h1 q1 => ?_)
  obtain ⟨G1, S1, p1_0⟩ := q1
  have N1 := NP.call N0 S1 (fun _ => rfl) (fun _ => rfl) (fun _ => rfl)
  have u1 : h1 108 8 = h 108 8 := S1 108 8 rfl
  have w1 : h1 35 1 = h 35 1 := S1 35 1 rfl
  have DR1 := DR0.cls S1 (by decide) ⟨rfl, rfl, rfl⟩ (by decide)
  refine y_pop (M := M_law) 288 dL_law_288 rfl ?_
  refine y_aload_n (M := M_law) 289 dL_law_289 rfl ?_
  refine y_aload_nO (M := M_law) 290 dL_law_290 rfl ?_
  refine y_iload_n (M := M_law) 291 dL_law_291 rfl ?_
  refine y_iconst (M := M_law) 292 dL_law_292 ?_
  refine y_iaddN (M := M_law) 293 dL_law_293 (by omega) (by omega) ?_
  refine y_sld (M := M_law) 294 dL_law_294 (by omega) (by omega) ?_
  refine y_aload_nO (M := M_law) 295 dL_law_295 rfl ?_
  refine y_iload_n (M := M_law) 296 dL_law_296 rfl ?_
  refine y_iconst (M := M_law) 297 dL_law_297 ?_
  refine y_iaddN (M := M_law) 298 dL_law_298 (by omega) (by omega) ?_
  refine y_sld (M := M_law) 299 dL_law_299 (by omega) (by omega) ?_
  refine y_vI (M := M_law) 300 dL_law_300 t_X12_shorter ll_25 (m_rr_of rfl) (rest := []) (c_X12_shorter3 h1 (sc xs (i + 1)) (sc xs (i + 2)) G1) o_108 rfl rfl rfl (Nat.le_of_ble_eq_true rfl) ⟨rfl, rfl⟩ (fun x2 h2 q2 => ?_)
  obtain ⟨G2, S2, p2_0, p2_1⟩ := q2
  have N2 := p2_1.1 N1
  have u2 : h2 108 8 = h1 108 8 := S2 108 8 rfl
  have w2 : h2 35 1 = h1 35 1 := S2 35 1 rfl
  obtain ⟨L2_, exy⟩ := both1 p1_0 p2_0 S1 S2 (fun _ => rfl) (by decide)
  have LX2 := LX0.mut S1 S2 L2_ (by decide) (by decide) (by decide) (by decide) (by decide) (by decide)
  have DR2 := DR1.cls S2 (by decide) ⟨rfl, rfl, rfl⟩ (by decide)
  refine y_pop (M := M_law) 303 dL_law_303 rfl ?_
  refine y_goto (M := M_law) 304 dL_law_304 1488 rfl ?_
  exact K h2 ⟨G2, N2, by omega, LX2, DR2⟩
set_option maxHeartbeats 4000000 in
set_option maxRecDepth 100000 in
theorem lk_3 {L : Nat} {xs : Nat → Int32} {i : Int} (hL : L ≤ 3072) (h0 : 0 ≤ i) (h1 : i + 5 < L) (K : ∀ h, LI h → m_Y (xL L xs) oF M_law 1488 [some (mO 41), some (mR 0), some (mR 108), some (mI i)] [] h Ql) (h : m_H) (I : LI h) : m_Y (xL L xs) oF M_law 307 [some (mO 41), some (mR 0), some (mR 108), some (mI i)] [] h Ql := by
  obtain ⟨G0, N0, T0, LX0, DR0⟩ := I
  refine y_aload_n (M := M_law) 307 dL_law_307 rfl ?_
  refine y_aload_nO (M := M_law) 308 dL_law_308 rfl ?_
  refine y_iload_n (M := M_law) 309 dL_law_309 rfl ?_
  refine y_iconst (M := M_law) 310 dL_law_310 ?_
  refine y_iaddN (M := M_law) 311 dL_law_311 (by omega) (by omega) ?_
  refine y_sld (M := M_law) 312 dL_law_312 (by omega) (by omega) ?_
  refine y_aload_nO (M := M_law) 313 dL_law_313 rfl ?_
  refine y_iload_n (M := M_law) 314 dL_law_314 rfl ?_
  refine y_iconst (M := M_law) 315 dL_law_315 ?_
  refine y_iaddN (M := M_law) 316 dL_law_316 (by omega) (by omega) ?_
  refine y_sld (M := M_law) 317 dL_law_317 (by omega) (by omega) ?_
  refine y_aload_nO (M := M_law) 318 dL_law_318 rfl ?_
  refine y_iload_n (M := M_law) 319 dL_law_319 rfl ?_
  refine y_iconst (M := M_law) 320 dL_law_320 ?_
  refine y_iaddN (M := M_law) 321 dL_law_321 (by omega) (by omega) ?_
  refine y_sld (M := M_law) 322 dL_law_322 (by omega) (by omega) ?_
  refine y_aload_nO (M := M_law) 323 dL_law_323 rfl ?_
  refine y_iload_n (M := M_law) 324 dL_law_324 rfl ?_
  refine y_iconst (M := M_law) 325 dL_law_325 ?_
  refine y_iaddN (M := M_law) 326 dL_law_326 (by omega) (by omega) ?_
  refine y_sld (M := M_law) 327 dL_law_327 (by omega) (by omega) ?_
  refine y_vI (M := M_law) 328 dL_law_328 t_X11_entry ll_26 (m_rr_of rfl) (rest := []) (c_X11_entry3 h (sc xs (i + 1)) (sc xs (i + 2)) (sc xs (i + 3)) (sc xs (i + 4)) (h 110) G0 LX0.2.1) o_0 rfl rfl rfl (Nat.le_of_ble_eq_true rfl) ⟨rfl, rfl⟩ (fun x1 h1 q1 => ?_)
  obtain ⟨G1, S1, p1_0⟩ := q1
  have N1 := NP.call N0 S1 (fun _ => rfl) (fun _ => rfl) (fun _ => rfl)
  have u1 : h1 108 8 = h 108 8 := S1 108 8 rfl
  have w1 : h1 35 1 = h 35 1 := S1 35 1 rfl
  have DR1 := DR0.cls S1 (by decide) ⟨rfl, rfl, rfl⟩ (by decide)
  refine y_pop (M := M_law) 331 dL_law_331 rfl ?_
  refine y_aload_n (M := M_law) 332 dL_law_332 rfl ?_
  refine y_aload_nO (M := M_law) 333 dL_law_333 rfl ?_
  refine y_iload_n (M := M_law) 334 dL_law_334 rfl ?_
  refine y_iconst (M := M_law) 335 dL_law_335 ?_
  refine y_iaddN (M := M_law) 336 dL_law_336 (by omega) (by omega) ?_
  refine y_sld (M := M_law) 337 dL_law_337 (by omega) (by omega) ?_
  refine y_aload_nO (M := M_law) 338 dL_law_338 rfl ?_
  refine y_iload_n (M := M_law) 339 dL_law_339 rfl ?_
  refine y_iconst (M := M_law) 340 dL_law_340 ?_
  refine y_iaddN (M := M_law) 341 dL_law_341 (by omega) (by omega) ?_
  refine y_sld (M := M_law) 342 dL_law_342 (by omega) (by omega) ?_
  refine y_aload_nO (M := M_law) 343 dL_law_343 rfl ?_
  refine y_iload_n (M := M_law) 344 dL_law_344 rfl ?_
  refine y_iconst (M := M_law) 345 dL_law_345 ?_
  refine y_iaddN (M := M_law) 346 dL_law_346 (by omega) (by omega) ?_
  refine y_sld (M := M_law) 347 dL_law_347 (by omega) (by omega) ?_
  refine y_aload_nO (M := M_law) 348 dL_law_348 rfl ?_
  refine y_iload_n (M := M_law) 349 dL_law_349 rfl ?_
  refine y_iconst (M := M_law) 350 dL_law_350 ?_
  refine y_iaddN (M := M_law) 351 dL_law_351 (by omega) (by omega) ?_
  refine y_sld (M := M_law) 352 dL_law_352 (by omega) (by omega) ?_
  refine y_vI (M := M_law) 353 dL_law_353 t_X12_entry ll_30 (m_rr_of rfl) (rest := []) (c_X12_entry3 h1 (sc xs (i + 1)) (sc xs (i + 2)) (sc xs (i + 3)) (sc xs (i + 4)) G1) o_108 rfl rfl rfl (Nat.le_of_ble_eq_true rfl) ⟨rfl, rfl⟩ (fun x2 h2 q2 => ?_)
  obtain ⟨G2, S2, p2_0, p2_1⟩ := q2
  have N2 := p2_1.1 N1
  have u2 : h2 108 8 = h1 108 8 := S2 108 8 rfl
  have w2 : h2 35 1 = h1 35 1 := S2 35 1 rfl
  obtain ⟨L2_, exy⟩ := both1 p1_0 p2_0 S1 S2 (fun _ => rfl) (by decide)
  have LX2 := LX0.mut S1 S2 L2_ (by decide) (by decide) (by decide) (by decide) (by decide) (by decide)
  have DR2 := DR1.cls S2 (by decide) ⟨rfl, rfl, rfl⟩ (by decide)
  refine y_pop (M := M_law) 356 dL_law_356 rfl ?_
  refine y_goto (M := M_law) 357 dL_law_357 1488 rfl ?_
  exact K h2 ⟨G2, N2, by omega, LX2, DR2⟩
set_option maxHeartbeats 4000000 in
set_option maxRecDepth 100000 in
theorem lk_4 {L : Nat} {xs : Nat → Int32} {i : Int} (hL : L ≤ 3072) (h0 : 0 ≤ i) (h1 : i + 5 < L) (K : ∀ h, LI h → m_Y (xL L xs) oF M_law 1488 [some (mO 41), some (mR 0), some (mR 108), some (mI i)] [] h Ql) (h : m_H) (I : LI h) : m_Y (xL L xs) oF M_law 360 [some (mO 41), some (mR 0), some (mR 108), some (mI i)] [] h Ql := by
  obtain ⟨G0, N0, T0, LX0, DR0⟩ := I
  refine y_aload_n (M := M_law) 360 dL_law_360 rfl ?_
  refine y_aload_nO (M := M_law) 361 dL_law_361 rfl ?_
  refine y_iload_n (M := M_law) 362 dL_law_362 rfl ?_
  refine y_iconst (M := M_law) 363 dL_law_363 ?_
  refine y_iaddN (M := M_law) 364 dL_law_364 (by omega) (by omega) ?_
  refine y_sld (M := M_law) 365 dL_law_365 (by omega) (by omega) ?_
  refine y_aload_nO (M := M_law) 366 dL_law_366 rfl ?_
  refine y_iload_n (M := M_law) 367 dL_law_367 rfl ?_
  refine y_iconst (M := M_law) 368 dL_law_368 ?_
  refine y_iaddN (M := M_law) 369 dL_law_369 (by omega) (by omega) ?_
  refine y_sld (M := M_law) 370 dL_law_370 (by omega) (by omega) ?_
  refine y_vI (M := M_law) 371 dL_law_371 t_X11_counts ll_31 (m_rr_of rfl) (rest := []) (c_X11_counts3 h (sc xs (i + 1)) (sc xs (i + 2)) (h 110) G0 LX0.2.1) o_0 rfl rfl rfl (Nat.le_of_ble_eq_true rfl) ⟨rfl, rfl⟩ (fun x1 h1 q1 => ?_)
  obtain ⟨G1, S1, p1_0⟩ := q1
  have N1 := NP.call N0 S1 (fun _ => rfl) (fun _ => rfl) (fun _ => rfl)
  have u1 : h1 108 8 = h 108 8 := S1 108 8 rfl
  have w1 : h1 35 1 = h 35 1 := S1 35 1 rfl
  have DR1 := DR0.cls S1 (by decide) ⟨rfl, rfl, rfl⟩ (by decide)
  refine y_pop (M := M_law) 374 dL_law_374 rfl ?_
  refine y_aload_n (M := M_law) 375 dL_law_375 rfl ?_
  refine y_aload_nO (M := M_law) 376 dL_law_376 rfl ?_
  refine y_iload_n (M := M_law) 377 dL_law_377 rfl ?_
  refine y_iconst (M := M_law) 378 dL_law_378 ?_
  refine y_iaddN (M := M_law) 379 dL_law_379 (by omega) (by omega) ?_
  refine y_sld (M := M_law) 380 dL_law_380 (by omega) (by omega) ?_
  refine y_aload_nO (M := M_law) 381 dL_law_381 rfl ?_
  refine y_iload_n (M := M_law) 382 dL_law_382 rfl ?_
  refine y_iconst (M := M_law) 383 dL_law_383 ?_
  refine y_iaddN (M := M_law) 384 dL_law_384 (by omega) (by omega) ?_
  refine y_sld (M := M_law) 385 dL_law_385 (by omega) (by omega) ?_
  refine y_vI (M := M_law) 386 dL_law_386 t_X12_counts ll_34 (m_rr_of rfl) (rest := []) (c_X12_counts3 h1 (sc xs (i + 1)) (sc xs (i + 2)) G1) o_108 rfl rfl rfl (Nat.le_of_ble_eq_true rfl) ⟨rfl, rfl⟩ (fun x2 h2 q2 => ?_)
  obtain ⟨G2, S2, p2_0, p2_1⟩ := q2
  have N2 := p2_1.1 N1
  have u2 : h2 108 8 = h1 108 8 := S2 108 8 rfl
  have w2 : h2 35 1 = h1 35 1 := S2 35 1 rfl
  have L2_ := both2 p1_0 p2_0 S1 S2 (fun _ => rfl) (by decide)
  have LX2 := LX0.mut S1 S2 L2_ (by decide) (by decide) (by decide) (by decide) (by decide) (by decide)
  have DR2 := DR1.cls S2 (by decide) ⟨rfl, rfl, rfl⟩ (by decide)
  refine y_pop (M := M_law) 389 dL_law_389 rfl ?_
  refine y_goto (M := M_law) 390 dL_law_390 1488 rfl ?_
  exact K h2 ⟨G2, N2, by omega, LX2, DR2⟩
set_option maxHeartbeats 4000000 in
set_option maxRecDepth 100000 in
theorem lk_5 {L : Nat} {xs : Nat → Int32} {i : Int} (hL : L ≤ 3072) (h0 : 0 ≤ i) (h1 : i + 5 < L) (K : ∀ h, LI h → m_Y (xL L xs) oF M_law 1488 [some (mO 41), some (mR 0), some (mR 108), some (mI i)] [] h Ql) (h : m_H) (I : LI h) : m_Y (xL L xs) oF M_law 393 [some (mO 41), some (mR 0), some (mR 108), some (mI i)] [] h Ql := by
  obtain ⟨G0, N0, T0, LX0, DR0⟩ := I
  refine y_aload_n (M := M_law) 393 dL_law_393 rfl ?_
  refine y_aload_nO (M := M_law) 394 dL_law_394 rfl ?_
  refine y_iload_n (M := M_law) 395 dL_law_395 rfl ?_
  refine y_iconst (M := M_law) 396 dL_law_396 ?_
  refine y_iaddN (M := M_law) 397 dL_law_397 (by omega) (by omega) ?_
  refine y_sld (M := M_law) 398 dL_law_398 (by omega) (by omega) ?_
  refine y_aload_nO (M := M_law) 399 dL_law_399 rfl ?_
  refine y_iload_n (M := M_law) 400 dL_law_400 rfl ?_
  refine y_iconst (M := M_law) 401 dL_law_401 ?_
  refine y_iaddN (M := M_law) 402 dL_law_402 (by omega) (by omega) ?_
  refine y_sld (M := M_law) 403 dL_law_403 (by omega) (by omega) ?_
  refine y_vI (M := M_law) 404 dL_law_404 t_X11_of ll_35 (m_rr_of rfl) (rest := []) (c_X11_of3 h (sc xs (i + 1)) (sc xs (i + 2)) G0) o_0 rfl rfl rfl (Nat.le_of_ble_eq_true rfl) ⟨rfl, rfl⟩ (fun x1 h1 q1 => ?_)
  obtain ⟨G1, S1, p1_0, p1_1, p1_2⟩ := q1
  have N1 := NP.call N0 S1 (fun _ => rfl) (fun _ => rfl) (fun _ => rfl)
  have u1 : h1 108 8 = h 108 8 := S1 108 8 rfl
  have w1 : h1 35 1 = h 35 1 := S1 35 1 rfl
  have LX1 := LX0.cls S1 (by decide) (by decide) (by decide) (by decide) (by decide)
  have DR1 := DR0.cls S1 (by decide) ⟨rfl, rfl, rfl⟩ (by decide)
  refine y_pop (M := M_law) 407 dL_law_407 rfl ?_
  refine y_aload_n (M := M_law) 408 dL_law_408 rfl ?_
  refine y_aload_nO (M := M_law) 409 dL_law_409 rfl ?_
  refine y_iload_n (M := M_law) 410 dL_law_410 rfl ?_
  refine y_iconst (M := M_law) 411 dL_law_411 ?_
  refine y_iaddN (M := M_law) 412 dL_law_412 (by omega) (by omega) ?_
  refine y_sld (M := M_law) 413 dL_law_413 (by omega) (by omega) ?_
  refine y_aload_nO (M := M_law) 414 dL_law_414 rfl ?_
  refine y_iload_n (M := M_law) 415 dL_law_415 rfl ?_
  refine y_iconst (M := M_law) 416 dL_law_416 ?_
  refine y_iaddN (M := M_law) 417 dL_law_417 (by omega) (by omega) ?_
  refine y_sld (M := M_law) 418 dL_law_418 (by omega) (by omega) ?_
  refine y_vI (M := M_law) 419 dL_law_419 t_X12_of ll_38 (m_rr_of rfl) (rest := []) (c_X12_of3 h1 (sc xs (i + 1)) (sc xs (i + 2)) G1) o_108 rfl rfl rfl (Nat.le_of_ble_eq_true rfl) ⟨rfl, rfl⟩ (fun x2 h2 q2 => ?_)
  obtain ⟨G2, S2, p2_0, p2_1, p2_2⟩ := q2
  have N2 := NP.call N1 S2 (fun _ => rfl) (fun _ => rfl) (fun _ => rfl)
  have u2 : h2 108 8 = h1 108 8 := S2 108 8 rfl
  have w2 : h2 35 1 = h1 35 1 := S2 35 1 rfl
  have LX2 := LX1.cls S2 (by decide) (by decide) (by decide) (by decide) (by decide)
  have exy := LX0.of G0 S1 p1_2 p2_2 (by decide)
  have DR2 := DR1.cls S2 (by decide) ⟨rfl, rfl, rfl⟩ (by decide)
  refine y_pop (M := M_law) 422 dL_law_422 rfl ?_
  refine y_goto (M := M_law) 423 dL_law_423 1488 rfl ?_
  exact K h2 ⟨G2, N2, by omega, LX2, DR2⟩
set_option maxHeartbeats 4000000 in
set_option maxRecDepth 100000 in
theorem lk_6 {L : Nat} {xs : Nat → Int32} {i : Int} (hL : L ≤ 3072) (h0 : 0 ≤ i) (h1 : i + 5 < L) (K : ∀ h, LI h → m_Y (xL L xs) oF M_law 1488 [some (mO 41), some (mR 0), some (mR 108), some (mI i)] [] h Ql) (h : m_H) (I : LI h) : m_Y (xL L xs) oF M_law 426 [some (mO 41), some (mR 0), some (mR 108), some (mI i)] [] h Ql := by
  obtain ⟨G0, N0, T0, LX0, DR0⟩ := I
  refine y_aload_n (M := M_law) 426 dL_law_426 rfl ?_
  refine y_aload_nO (M := M_law) 427 dL_law_427 rfl ?_
  refine y_iload_n (M := M_law) 428 dL_law_428 rfl ?_
  refine y_iconst (M := M_law) 429 dL_law_429 ?_
  refine y_iaddN (M := M_law) 430 dL_law_430 (by omega) (by omega) ?_
  refine y_sld (M := M_law) 431 dL_law_431 (by omega) (by omega) ?_
  refine y_aload_nO (M := M_law) 432 dL_law_432 rfl ?_
  refine y_iload_n (M := M_law) 433 dL_law_433 rfl ?_
  refine y_iconst (M := M_law) 434 dL_law_434 ?_
  refine y_iaddN (M := M_law) 435 dL_law_435 (by omega) (by omega) ?_
  refine y_sld (M := M_law) 436 dL_law_436 (by omega) (by omega) ?_
  refine y_aload_nO (M := M_law) 437 dL_law_437 rfl ?_
  refine y_iload_n (M := M_law) 438 dL_law_438 rfl ?_
  refine y_iconst (M := M_law) 439 dL_law_439 ?_
  refine y_iaddN (M := M_law) 440 dL_law_440 (by omega) (by omega) ?_
  refine y_sld (M := M_law) 441 dL_law_441 (by omega) (by omega) ?_
  refine y_aload_nO (M := M_law) 442 dL_law_442 rfl ?_
  refine y_iload_n (M := M_law) 443 dL_law_443 rfl ?_
  refine y_iconst (M := M_law) 444 dL_law_444 ?_
  refine y_iaddN (M := M_law) 445 dL_law_445 (by omega) (by omega) ?_
  refine y_sld (M := M_law) 446 dL_law_446 (by omega) (by omega) ?_
  refine y_aload_nO (M := M_law) 447 dL_law_447 rfl ?_
  refine y_iload_n (M := M_law) 448 dL_law_448 rfl ?_
  refine y_iconst (M := M_law) 449 dL_law_449 ?_
  refine y_iaddN (M := M_law) 450 dL_law_450 (by omega) (by omega) ?_
  refine y_sld (M := M_law) 451 dL_law_451 (by omega) (by omega) ?_
  refine y_vI (M := M_law) 452 dL_law_452 t_X11_feed ll_39 (m_rr_of rfl) (rest := []) (c_X11_feed3 h (sc xs (i + 1)) (sc xs (i + 2)) (sc xs (i + 3)) (sc xs (i + 4)) (sc xs (i + 5)) G0) o_0 rfl rfl rfl (Nat.le_of_ble_eq_true rfl) ⟨rfl, rfl⟩ (fun x1 h1 q1 => ?_)
  obtain ⟨G1, S1, p1_0, p1_1⟩ := q1
  have N1 := NP.call N0 S1 (fun _ => rfl) (fun _ => rfl) (fun _ => rfl)
  have u1 : h1 108 8 = h 108 8 := S1 108 8 rfl
  have DR1 := DR0.cls S1 (by decide) ⟨rfl, rfl, rfl⟩ (by decide)
  refine y_pop (M := M_law) 455 dL_law_455 rfl ?_
  refine y_aload_n (M := M_law) 456 dL_law_456 rfl ?_
  refine y_aload_nO (M := M_law) 457 dL_law_457 rfl ?_
  refine y_iload_n (M := M_law) 458 dL_law_458 rfl ?_
  refine y_iconst (M := M_law) 459 dL_law_459 ?_
  refine y_iaddN (M := M_law) 460 dL_law_460 (by omega) (by omega) ?_
  refine y_sld (M := M_law) 461 dL_law_461 (by omega) (by omega) ?_
  refine y_aload_nO (M := M_law) 462 dL_law_462 rfl ?_
  refine y_iload_n (M := M_law) 463 dL_law_463 rfl ?_
  refine y_iconst (M := M_law) 464 dL_law_464 ?_
  refine y_iaddN (M := M_law) 465 dL_law_465 (by omega) (by omega) ?_
  refine y_sld (M := M_law) 466 dL_law_466 (by omega) (by omega) ?_
  refine y_aload_nO (M := M_law) 467 dL_law_467 rfl ?_
  refine y_iload_n (M := M_law) 468 dL_law_468 rfl ?_
  refine y_iconst (M := M_law) 469 dL_law_469 ?_
  refine y_iaddN (M := M_law) 470 dL_law_470 (by omega) (by omega) ?_
  refine y_sld (M := M_law) 471 dL_law_471 (by omega) (by omega) ?_
  refine y_aload_nO (M := M_law) 472 dL_law_472 rfl ?_
  refine y_iload_n (M := M_law) 473 dL_law_473 rfl ?_
  refine y_iconst (M := M_law) 474 dL_law_474 ?_
  refine y_iaddN (M := M_law) 475 dL_law_475 (by omega) (by omega) ?_
  refine y_sld (M := M_law) 476 dL_law_476 (by omega) (by omega) ?_
  refine y_aload_nO (M := M_law) 477 dL_law_477 rfl ?_
  refine y_iload_n (M := M_law) 478 dL_law_478 rfl ?_
  refine y_iconst (M := M_law) 479 dL_law_479 ?_
  refine y_iaddN (M := M_law) 480 dL_law_480 (by omega) (by omega) ?_
  refine y_sld (M := M_law) 481 dL_law_481 (by omega) (by omega) ?_
  refine y_vI (M := M_law) 482 dL_law_482 t_X12_feed ll_43 (m_rr_of rfl) (rest := []) (c_X12_feed3 h1 (sc xs (i + 1)) (sc xs (i + 2)) (sc xs (i + 3)) (sc xs (i + 4)) (sc xs (i + 5)) G1) o_108 rfl rfl rfl (Nat.le_of_ble_eq_true rfl) ⟨rfl, rfl⟩ (fun x2 h2 q2 => ?_)
  obtain ⟨G2, S2, p2_0, p2_1⟩ := q2
  have N2 := NP.call N1 S2 (fun _ => rfl) (fun _ => rfl) (fun _ => rfl)
  have u2 : h2 35 1 = h1 35 1 := S2 35 1 rfl
  have LX2 := LX0.feed T0 S1 S2 p1_1 p2_1 (by decide) (by decide) (by decide) (by decide) (by decide) (by decide) (by decide) (by decide) (by decide)
  have DR2 := DR1.cls S2 (by decide) ⟨rfl, rfl, rfl⟩ (by decide)
  refine y_pop (M := M_law) 485 dL_law_485 rfl ?_
  refine y_goto (M := M_law) 486 dL_law_486 1488 rfl ?_
  exact K h2 ⟨G2, N2, by omega, LX2, DR2⟩
set_option maxHeartbeats 4000000 in
set_option maxRecDepth 100000 in
theorem lk_7 {L : Nat} {xs : Nat → Int32} {i : Int} (hL : L ≤ 3072) (h0 : 0 ≤ i) (h1 : i + 5 < L) (K : ∀ h, LI h → m_Y (xL L xs) oF M_law 1488 [some (mO 41), some (mR 0), some (mR 108), some (mI i)] [] h Ql) (h : m_H) (I : LI h) : m_Y (xL L xs) oF M_law 489 [some (mO 41), some (mR 0), some (mR 108), some (mI i)] [] h Ql := by
  obtain ⟨G0, N0, T0, LX0, DR0⟩ := I
  refine y_aload_n (M := M_law) 489 dL_law_489 rfl ?_
  refine y_aload_nO (M := M_law) 490 dL_law_490 rfl ?_
  refine y_iload_n (M := M_law) 491 dL_law_491 rfl ?_
  refine y_iconst (M := M_law) 492 dL_law_492 ?_
  refine y_iaddN (M := M_law) 493 dL_law_493 (by omega) (by omega) ?_
  refine y_sld (M := M_law) 494 dL_law_494 (by omega) (by omega) ?_
  refine y_vI (M := M_law) 495 dL_law_495 t_X11_end ll_44 (m_rr_of rfl) (rest := []) (c_X11_end h (sc xs (i + 1)) G0) o_0 rfl rfl rfl (Nat.le_of_ble_eq_true rfl) ⟨rfl, rfl⟩ (fun x1 h1 q1 => ?_)
  obtain ⟨G1, S1, p1_0⟩ := q1
  have N1 := NP.call N0 S1 (fun _ => rfl) (fun _ => rfl) (fun _ => rfl)
  have u1 : h1 108 8 = h 108 8 := S1 108 8 rfl
  have LX1 := LX0.cls S1 (by decide) (by decide) (by decide) (by decide) (by decide)
  have DR1 := DR0.cls S1 (by decide) ⟨rfl, rfl, rfl⟩ (by decide)
  refine y_pop (M := M_law) 498 dL_law_498 rfl ?_
  refine y_aload_n (M := M_law) 499 dL_law_499 rfl ?_
  refine y_aload_nO (M := M_law) 500 dL_law_500 rfl ?_
  refine y_iload_n (M := M_law) 501 dL_law_501 rfl ?_
  refine y_iconst (M := M_law) 502 dL_law_502 ?_
  refine y_iaddN (M := M_law) 503 dL_law_503 (by omega) (by omega) ?_
  refine y_sld (M := M_law) 504 dL_law_504 (by omega) (by omega) ?_
  refine y_vI (M := M_law) 505 dL_law_505 t_X12_end ll_48 (m_rr_of rfl) (rest := []) (c_X12_end h1 (sc xs (i + 1)) G1) o_108 rfl rfl rfl (Nat.le_of_ble_eq_true rfl) ⟨rfl, rfl⟩ (fun x2 h2 q2 => ?_)
  obtain ⟨G2, S2, p2_0⟩ := q2
  have N2 := NP.call N1 S2 (fun _ => rfl) (fun _ => rfl) (fun _ => rfl)
  have u2 : h2 35 1 = h1 35 1 := S2 35 1 rfl
  have LX2 := LX1.cls S2 (by decide) (by decide) (by decide) (by decide) (by decide)
  have DR2 := DR1.cls S2 (by decide) ⟨rfl, rfl, rfl⟩ (by decide)
  refine y_pop (M := M_law) 508 dL_law_508 rfl ?_
  refine y_goto (M := M_law) 509 dL_law_509 1488 rfl ?_
  exact K h2 ⟨G2, N2, by omega, LX2, DR2⟩
set_option maxHeartbeats 4000000 in
set_option maxRecDepth 100000 in
theorem lk_8 {L : Nat} {xs : Nat → Int32} {i : Int} (hL : L ≤ 3072) (h0 : 0 ≤ i) (h1 : i + 5 < L) (K : ∀ h, LI h → m_Y (xL L xs) oF M_law 1488 [some (mO 41), some (mR 0), some (mR 108), some (mI i)] [] h Ql) (h : m_H) (I : LI h) : m_Y (xL L xs) oF M_law 512 [some (mO 41), some (mR 0), some (mR 108), some (mI i)] [] h Ql := by
  obtain ⟨G0, N0, T0, LX0, DR0⟩ := I
  refine y_aload_n (M := M_law) 512 dL_law_512 rfl ?_
  refine y_vI (M := M_law) 513 dL_law_513 t_X11_row ll_49 (m_rr_of rfl) (rest := []) (c_X11_row3 h (h 110) G0 LX0.2.1) o_0 rfl rfl rfl (Nat.le_of_ble_eq_true rfl) ⟨rfl, rfl⟩ (fun x1 h1 q1 => ?_)
  obtain ⟨G1, S1, p1_0, p1_1⟩ := q1
  have N1 := NP.call N0 S1 (fun _ => rfl) (fun _ => rfl) (fun _ => rfl)
  have u1 : h1 108 8 = h 108 8 := S1 108 8 rfl
  have DR1 := DR0.cls S1 (by decide) ⟨rfl, rfl, rfl⟩ (by decide)
  refine y_pop (M := M_law) 516 dL_law_516 rfl ?_
  refine y_aload_n (M := M_law) 517 dL_law_517 rfl ?_
  refine y_vI (M := M_law) 518 dL_law_518 t_X12_row ll_53 (m_rr_of rfl) (rest := []) (c_X12_row3 h1 G1) o_108 rfl rfl rfl (Nat.le_of_ble_eq_true rfl) ⟨rfl, rfl⟩ (fun x2 h2 q2 => ?_)
  obtain ⟨G2, S2, p2_0, p2_1, p2_2⟩ := q2
  have N2 := p2_2.1 N1
  have u2 : h2 35 1 = h1 35 1 := S2 35 1 rfl
  obtain ⟨LX2, exy⟩ := LX0.row T0 S1 S2 p1_1 p2_1 (by decide) (by decide) (by decide) rfl (by decide) (by decide) (by decide) rfl
  have DR2 := DR1.cls S2 (by decide) ⟨rfl, rfl, rfl⟩ (by decide)
  refine y_pop (M := M_law) 521 dL_law_521 rfl ?_
  refine y_goto (M := M_law) 522 dL_law_522 1488 rfl ?_
  exact K h2 ⟨G2, N2, by omega, LX2, DR2⟩
set_option maxHeartbeats 4000000 in
set_option maxRecDepth 100000 in
theorem lk_9 {L : Nat} {xs : Nat → Int32} {i : Int} (hL : L ≤ 3072) (h0 : 0 ≤ i) (h1 : i + 5 < L) (K : ∀ h, LI h → m_Y (xL L xs) oF M_law 1488 [some (mO 41), some (mR 0), some (mR 108), some (mI i)] [] h Ql) (h : m_H) (I : LI h) : m_Y (xL L xs) oF M_law 525 [some (mO 41), some (mR 0), some (mR 108), some (mI i)] [] h Ql := by
  obtain ⟨G0, N0, T0, LX0, DR0⟩ := I
  refine y_aload_n (M := M_law) 525 dL_law_525 rfl ?_
  refine y_vI (M := M_law) 526 dL_law_526 t_X11_blurred ll_54 (m_rr_of rfl) (rest := []) (c_X11_blurred3 h G0) o_0 rfl rfl rfl (Nat.le_of_ble_eq_true rfl) ⟨rfl, rfl⟩ (fun x1 h1 q1 => ?_)
  obtain ⟨G1, S1, p1_0⟩ := q1
  have N1 := NP.call N0 S1 (fun _ => rfl) (fun _ => rfl) (fun _ => rfl)
  have u1 : h1 108 8 = h 108 8 := S1 108 8 rfl
  have w1 : h1 35 1 = h 35 1 := S1 35 1 rfl
  have LX1 := LX0.cls S1 (by decide) (by decide) (by decide) (by decide) (by decide)
  have DR1 := DR0.cls S1 (by decide) ⟨rfl, rfl, rfl⟩ (by decide)
  refine y_pop (M := M_law) 529 dL_law_529 rfl ?_
  refine y_aload_n (M := M_law) 530 dL_law_530 rfl ?_
  refine y_vI (M := M_law) 531 dL_law_531 t_X12_blurred ll_57 (m_rr_of rfl) (rest := []) (c_X12_blurred3 h1 G1) o_108 rfl rfl rfl (Nat.le_of_ble_eq_true rfl) ⟨rfl, rfl⟩ (fun x2 h2 q2 => ?_)
  obtain ⟨G2, S2, p2_0⟩ := q2
  have N2 := NP.call N1 S2 (fun _ => rfl) (fun _ => rfl) (fun _ => rfl)
  have u2 : h2 108 8 = h1 108 8 := S2 108 8 rfl
  have w2 : h2 35 1 = h1 35 1 := S2 35 1 rfl
  have LX2 := LX1.cls S2 (by decide) (by decide) (by decide) (by decide) (by decide)
  have exy : x1 = x2 := p1_0.symm.trans (LX0.2.2.2.2.1.trans ((S1 108 6 rfl).symm.trans p2_0))
  have DR2 := DR1.cls S2 (by decide) ⟨rfl, rfl, rfl⟩ (by decide)
  refine y_pop (M := M_law) 534 dL_law_534 rfl ?_
  refine y_goto (M := M_law) 535 dL_law_535 1488 rfl ?_
  exact K h2 ⟨G2, N2, by omega, LX2, DR2⟩
set_option maxHeartbeats 4000000 in
set_option maxRecDepth 100000 in
theorem lk_10 {L : Nat} {xs : Nat → Int32} {i : Int} (hL : L ≤ 3072) (h0 : 0 ≤ i) (h1 : i + 5 < L) (K : ∀ h, LI h → m_Y (xL L xs) oF M_law 1488 [some (mO 41), some (mR 0), some (mR 108), some (mI i)] [] h Ql) (h : m_H) (I : LI h) : m_Y (xL L xs) oF M_law 538 [some (mO 41), some (mR 0), some (mR 108), some (mI i)] [] h Ql := by
  obtain ⟨G0, N0, T0, LX0, DR0⟩ := I
  refine y_aload_n (M := M_law) 538 dL_law_538 rfl ?_
  refine y_vI (M := M_law) 539 dL_law_539 t_X11_book ll_58 (m_rr_of rfl) (rest := []) (c_X11_book3 h (h 110) G0 LX0.2.1) o_0 rfl rfl rfl (Nat.le_of_ble_eq_true rfl) ⟨rfl, rfl⟩ (fun x1 h1 q1 => ?_)
  obtain ⟨G1, S1, p1_0, p1_1, p1_2, p1_3⟩ := q1
  have N1 := NP.call N0 S1 (fun _ => rfl) (fun _ => rfl) (fun _ => rfl)
  have u1 : h1 108 8 = h 108 8 := S1 108 8 rfl
  have DR1 := DR0.cls S1 (by decide) ⟨rfl, rfl, rfl⟩ (by decide)
  refine y_pop (M := M_law) 542 dL_law_542 rfl ?_
  refine y_aload_n (M := M_law) 543 dL_law_543 rfl ?_
  refine y_vI (M := M_law) 544 dL_law_544 t_X12_book ll_61 (m_rr_of rfl) (rest := []) (c_X12_book2 h1 G1) o_108 rfl rfl rfl (Nat.le_of_ble_eq_true rfl) ⟨rfl, rfl⟩ (fun x2 h2 q2 => ?_)
  obtain ⟨G2, S2, p2_0, p2_1, p2_2, p2_3, p2_4⟩ := q2
  have N2 := p2_4.1 N1
  have u2 : h2 35 1 = h1 35 1 := S2 35 1 rfl
  obtain ⟨LX2, exy⟩ := LX0.book T0 S1 S2 p1_3 p2_3 (by decide) (by decide) (by decide) rfl (by decide) (by decide) (by decide) rfl (by decide)
  have DR2 := DR1.cls S2 (by decide) ⟨rfl, rfl, rfl⟩ (by decide)
  refine y_pop (M := M_law) 547 dL_law_547 rfl ?_
  refine y_goto (M := M_law) 548 dL_law_548 1488 rfl ?_
  exact K h2 ⟨G2, N2, by omega, LX2, DR2⟩
set_option maxHeartbeats 4000000 in
set_option maxRecDepth 100000 in
theorem lk_11 {L : Nat} {xs : Nat → Int32} {i : Int} (hL : L ≤ 3072) (h0 : 0 ≤ i) (h1 : i + 5 < L) (K : ∀ h, LI h → m_Y (xL L xs) oF M_law 1488 [some (mO 41), some (mR 0), some (mR 108), some (mI i)] [] h Ql) (h : m_H) (I : LI h) : m_Y (xL L xs) oF M_law 551 [some (mO 41), some (mR 0), some (mR 108), some (mI i)] [] h Ql := by
  obtain ⟨G0, N0, T0, LX0, DR0⟩ := I
  refine y_aload_n (M := M_law) 551 dL_law_551 rfl ?_
  refine y_vI (M := M_law) 552 dL_law_552 t_X11_fault ll_62 (m_rr_of rfl) (rest := []) (c_X11_fault3 h G0) o_0 rfl rfl rfl (Nat.le_of_ble_eq_true rfl) ⟨rfl, rfl⟩ (fun x1 h1 q1 => ?_)
  obtain ⟨G1, S1, p1_0⟩ := q1
  have N1 := NP.call N0 S1 (fun _ => rfl) (fun _ => rfl) (fun _ => rfl)
  have u1 : h1 108 8 = h 108 8 := S1 108 8 rfl
  have w1 : h1 35 1 = h 35 1 := S1 35 1 rfl
  have LX1 := LX0.cls S1 (by decide) (by decide) (by decide) (by decide) (by decide)
  have DR1 := DR0.cls S1 (by decide) ⟨rfl, rfl, rfl⟩ (by decide)
  refine y_pop (M := M_law) 555 dL_law_555 rfl ?_
  refine y_aload_n (M := M_law) 556 dL_law_556 rfl ?_
  refine y_vI (M := M_law) 557 dL_law_557 t_X12_fault ll_65 (m_rr_of rfl) (rest := []) (c_X12_fault3 h1 G1) o_108 rfl rfl rfl (Nat.le_of_ble_eq_true rfl) ⟨rfl, rfl⟩ (fun x2 h2 q2 => ?_)
  obtain ⟨G2, S2, p2_0⟩ := q2
  have N2 := NP.call N1 S2 (fun _ => rfl) (fun _ => rfl) (fun _ => rfl)
  have u2 : h2 108 8 = h1 108 8 := S2 108 8 rfl
  have w2 : h2 35 1 = h1 35 1 := S2 35 1 rfl
  have LX2 := LX1.cls S2 (by decide) (by decide) (by decide) (by decide) (by decide)
  have exy : x1 = x2 := p1_0.symm.trans (LX0.2.2.2.2.2.trans ((S1 108 13 rfl).symm.trans p2_0))
  have DR2 := DR1.cls S2 (by decide) ⟨rfl, rfl, rfl⟩ (by decide)
  refine y_pop (M := M_law) 560 dL_law_560 rfl ?_
  refine y_goto (M := M_law) 561 dL_law_561 1488 rfl ?_
  exact K h2 ⟨G2, N2, by omega, LX2, DR2⟩
set_option maxHeartbeats 4000000 in
set_option maxRecDepth 100000 in
theorem lk_12 {L : Nat} {xs : Nat → Int32} {i : Int} (hL : L ≤ 3072) (h0 : 0 ≤ i) (h1 : i + 5 < L) (K : ∀ h, LI h → m_Y (xL L xs) oF M_law 1488 [some (mO 41), some (mR 0), some (mR 108), some (mI i)] [] h Ql) (h : m_H) (I : LI h) : m_Y (xL L xs) oF M_law 564 [some (mO 41), some (mR 0), some (mR 108), some (mI i)] [] h Ql := by
  obtain ⟨G0, N0, T0, LX0, DR0⟩ := I
  refine y_aload_n (M := M_law) 564 dL_law_564 rfl ?_
  refine y_vI (M := M_law) 565 dL_law_565 t_X11_fits ll_66 (m_rr_of rfl) (rest := []) (c_X11_fits h G0) o_0 rfl rfl rfl (Nat.le_of_ble_eq_true rfl) ⟨rfl, rfl⟩ (fun x1 h1 q1 => ?_)
  obtain ⟨G1, S1, p1_0, p1_1⟩ := q1
  have N1 := NP.call N0 S1 (fun _ => rfl) (fun _ => rfl) (fun _ => rfl)
  have u1 : h1 108 8 = h 108 8 := S1 108 8 rfl
  have w1 : h1 35 1 = h 35 1 := S1 35 1 rfl
  have LX1 := LX0.cls S1 (by decide) (by decide) (by decide) (by decide) (by decide)
  have DR1 := DR0.cls S1 (by decide) ⟨rfl, rfl, rfl⟩ (by decide)
  refine y_pop (M := M_law) 568 dL_law_568 rfl ?_
  refine y_aload_n (M := M_law) 569 dL_law_569 rfl ?_
  refine y_vI (M := M_law) 570 dL_law_570 t_X12_fits ll_69 (m_rr_of rfl) (rest := []) (c_X12_fits h1 G1 N1) o_108 rfl rfl rfl (Nat.le_of_ble_eq_true rfl) ⟨rfl, rfl⟩ (fun x2 h2 q2 => ?_)
  obtain ⟨G2, S2, p2_0, p2_1⟩ := q2
  have N2 := NP.call N1 S2 (fun _ => rfl) (fun _ => rfl) (fun _ => rfl)
  have u2 : h2 108 8 = h1 108 8 := S2 108 8 rfl
  have w2 : h2 35 1 = h1 35 1 := S2 35 1 rfl
  have LX2 := LX1.cls S2 (by decide) (by decide) (by decide) (by decide) (by decide)
  have DR2 := DR1.cls S2 (by decide) ⟨rfl, rfl, rfl⟩ (by decide)
  refine y_pop (M := M_law) 573 dL_law_573 rfl ?_
  refine y_goto (M := M_law) 574 dL_law_574 1488 rfl ?_
  exact K h2 ⟨G2, N2, by omega, LX2, DR2⟩
set_option maxHeartbeats 4000000 in
set_option maxRecDepth 100000 in
theorem lk_13 {L : Nat} {xs : Nat → Int32} {i : Int} (hL : L ≤ 3072) (h0 : 0 ≤ i) (h1 : i + 5 < L) (K : ∀ h, LI h → m_Y (xL L xs) oF M_law 1488 [some (mO 41), some (mR 0), some (mR 108), some (mI i)] [] h Ql) (h : m_H) (I : LI h) : m_Y (xL L xs) oF M_law 577 [some (mO 41), some (mR 0), some (mR 108), some (mI i)] [] h Ql := by
  obtain ⟨G0, N0, T0, LX0, DR0⟩ := I
  refine y_aload_n (M := M_law) 577 dL_law_577 rfl ?_
  refine y_aload_nO (M := M_law) 578 dL_law_578 rfl ?_
  refine y_iload_n (M := M_law) 579 dL_law_579 rfl ?_
  refine y_iconst (M := M_law) 580 dL_law_580 ?_
  refine y_iaddN (M := M_law) 581 dL_law_581 (by omega) (by omega) ?_
  refine y_sld (M := M_law) 582 dL_law_582 (by omega) (by omega) ?_
  refine y_aload_nO (M := M_law) 583 dL_law_583 rfl ?_
  refine y_iload_n (M := M_law) 584 dL_law_584 rfl ?_
  refine y_iconst (M := M_law) 585 dL_law_585 ?_
  refine y_iaddN (M := M_law) 586 dL_law_586 (by omega) (by omega) ?_
  refine y_sld (M := M_law) 587 dL_law_587 (by omega) (by omega) ?_
  refine y_aload_nO (M := M_law) 588 dL_law_588 rfl ?_
  refine y_iload_n (M := M_law) 589 dL_law_589 rfl ?_
  refine y_iconst (M := M_law) 590 dL_law_590 ?_
  refine y_iaddN (M := M_law) 591 dL_law_591 (by omega) (by omega) ?_
  refine y_sld (M := M_law) 592 dL_law_592 (by omega) (by omega) ?_
  refine y_vI (M := M_law) 593 dL_law_593 t_X11_between ll_70 (m_rr_of rfl) (rest := []) (c_X11_between h (sc xs (i + 1)) (sc xs (i + 2)) (sc xs (i + 3)) G0) o_0 rfl rfl rfl (Nat.le_of_ble_eq_true rfl) ⟨rfl, rfl⟩ (fun x1 h1 q1 => ?_)
  obtain ⟨G1, S1⟩ := q1
  have N1 := NP.call N0 S1 (fun _ => rfl) (fun _ => rfl) (fun _ => rfl)
  have u1 : h1 108 8 = h 108 8 := S1 108 8 rfl
  have w1 : h1 35 1 = h 35 1 := S1 35 1 rfl
  have LX1 := LX0.cls S1 (by decide) (by decide) (by decide) (by decide) (by decide)
  have DR1 := DR0.cls S1 (by decide) ⟨rfl, rfl, rfl⟩ (by decide)
  refine y_pop (M := M_law) 596 dL_law_596 rfl ?_
  refine y_aload_n (M := M_law) 597 dL_law_597 rfl ?_
  refine y_aload_nO (M := M_law) 598 dL_law_598 rfl ?_
  refine y_iload_n (M := M_law) 599 dL_law_599 rfl ?_
  refine y_iconst (M := M_law) 600 dL_law_600 ?_
  refine y_iaddN (M := M_law) 601 dL_law_601 (by omega) (by omega) ?_
  refine y_sld (M := M_law) 602 dL_law_602 (by omega) (by omega) ?_
  refine y_aload_nO (M := M_law) 603 dL_law_603 rfl ?_
  refine y_iload_n (M := M_law) 604 dL_law_604 rfl ?_
  refine y_iconst (M := M_law) 605 dL_law_605 ?_
  refine y_iaddN (M := M_law) 606 dL_law_606 (by omega) (by omega) ?_
  refine y_sld (M := M_law) 607 dL_law_607 (by omega) (by omega) ?_
  refine y_aload_nO (M := M_law) 608 dL_law_608 rfl ?_
  refine y_iload_n (M := M_law) 609 dL_law_609 rfl ?_
  refine y_iconst (M := M_law) 610 dL_law_610 ?_
  refine y_iaddN (M := M_law) 611 dL_law_611 (by omega) (by omega) ?_
  refine y_sld (M := M_law) 612 dL_law_612 (by omega) (by omega) ?_
  refine y_vI (M := M_law) 613 dL_law_613 t_X12_between ll_74 (m_rr_of rfl) (rest := []) (c_X12_between h1 (sc xs (i + 1)) (sc xs (i + 2)) (sc xs (i + 3)) G1 N1) o_108 rfl rfl rfl (Nat.le_of_ble_eq_true rfl) ⟨rfl, rfl⟩ (fun x2 h2 q2 => ?_)
  obtain ⟨G2, S2, p2_0, p2_1⟩ := q2
  have N2 := NP.call N1 S2 (fun _ => rfl) (fun _ => rfl) (fun _ => rfl)
  have u2 : h2 108 8 = h1 108 8 := S2 108 8 rfl
  have w2 : h2 35 1 = h1 35 1 := S2 35 1 rfl
  have LX2 := LX1.cls S2 (by decide) (by decide) (by decide) (by decide) (by decide)
  have DR2 := DR1.cls S2 (by decide) ⟨rfl, rfl, rfl⟩ (by decide)
  refine y_pop (M := M_law) 616 dL_law_616 rfl ?_
  refine y_goto (M := M_law) 617 dL_law_617 1488 rfl ?_
  exact K h2 ⟨G2, N2, by omega, LX2, DR2⟩
set_option maxHeartbeats 4000000 in
set_option maxRecDepth 100000 in
theorem lk_14 {L : Nat} {xs : Nat → Int32} {i : Int} (hL : L ≤ 3072) (h0 : 0 ≤ i) (h1 : i + 5 < L) (K : ∀ h, LI h → m_Y (xL L xs) oF M_law 1488 [some (mO 41), some (mR 0), some (mR 108), some (mI i)] [] h Ql) (h : m_H) (I : LI h) : m_Y (xL L xs) oF M_law 620 [some (mO 41), some (mR 0), some (mR 108), some (mI i)] [] h Ql := by
  obtain ⟨G0, N0, T0, LX0, DR0⟩ := I
  refine y_aload_n (M := M_law) 620 dL_law_620 rfl ?_
  refine y_aload_nO (M := M_law) 621 dL_law_621 rfl ?_
  refine y_iload_n (M := M_law) 622 dL_law_622 rfl ?_
  refine y_iconst (M := M_law) 623 dL_law_623 ?_
  refine y_iaddN (M := M_law) 624 dL_law_624 (by omega) (by omega) ?_
  refine y_sld (M := M_law) 625 dL_law_625 (by omega) (by omega) ?_
  refine y_aload_nO (M := M_law) 626 dL_law_626 rfl ?_
  refine y_iload_n (M := M_law) 627 dL_law_627 rfl ?_
  refine y_iconst (M := M_law) 628 dL_law_628 ?_
  refine y_iaddN (M := M_law) 629 dL_law_629 (by omega) (by omega) ?_
  refine y_sld (M := M_law) 630 dL_law_630 (by omega) (by omega) ?_
  refine y_vI (M := M_law) 631 dL_law_631 t_X11_sure ll_75 (m_rr_of rfl) (rest := []) (c_X11_sure h (sc xs (i + 1)) (sc xs (i + 2)) G0) o_0 rfl rfl rfl (Nat.le_of_ble_eq_true rfl) ⟨rfl, rfl⟩ (fun x1 h1 q1 => ?_)
  obtain ⟨G1, S1, p1_0, p1_1⟩ := q1
  have N1 := NP.call N0 S1 (fun _ => rfl) (fun _ => rfl) (fun _ => rfl)
  have u1 : h1 108 8 = h 108 8 := S1 108 8 rfl
  have w1 : h1 35 1 = h 35 1 := S1 35 1 rfl
  have LX1 := LX0.cls S1 (by decide) (by decide) (by decide) (by decide) (by decide)
  have DR1 := DR0.cls S1 (by decide) ⟨rfl, rfl, rfl⟩ (by decide)
  refine y_pop (M := M_law) 634 dL_law_634 rfl ?_
  refine y_aload_n (M := M_law) 635 dL_law_635 rfl ?_
  refine y_aload_nO (M := M_law) 636 dL_law_636 rfl ?_
  refine y_iload_n (M := M_law) 637 dL_law_637 rfl ?_
  refine y_iconst (M := M_law) 638 dL_law_638 ?_
  refine y_iaddN (M := M_law) 639 dL_law_639 (by omega) (by omega) ?_
  refine y_sld (M := M_law) 640 dL_law_640 (by omega) (by omega) ?_
  refine y_aload_nO (M := M_law) 641 dL_law_641 rfl ?_
  refine y_iload_n (M := M_law) 642 dL_law_642 rfl ?_
  refine y_iconst (M := M_law) 643 dL_law_643 ?_
  refine y_iaddN (M := M_law) 644 dL_law_644 (by omega) (by omega) ?_
  refine y_sld (M := M_law) 645 dL_law_645 (by omega) (by omega) ?_
  refine y_vI (M := M_law) 646 dL_law_646 t_X12_sure ll_78 (m_rr_of rfl) (rest := []) (c_X12_sure h1 (sc xs (i + 1)) (sc xs (i + 2)) G1 N1) o_108 rfl rfl rfl (Nat.le_of_ble_eq_true rfl) ⟨rfl, rfl⟩ (fun x2 h2 q2 => ?_)
  obtain ⟨G2, S2, p2_0, p2_1⟩ := q2
  have N2 := NP.call N1 S2 (fun _ => rfl) (fun _ => rfl) (fun _ => rfl)
  have u2 : h2 108 8 = h1 108 8 := S2 108 8 rfl
  have w2 : h2 35 1 = h1 35 1 := S2 35 1 rfl
  have LX2 := LX1.cls S2 (by decide) (by decide) (by decide) (by decide) (by decide)
  have DR2 := DR1.cls S2 (by decide) ⟨rfl, rfl, rfl⟩ (by decide)
  refine y_pop (M := M_law) 649 dL_law_649 rfl ?_
  refine y_goto (M := M_law) 650 dL_law_650 1488 rfl ?_
  exact K h2 ⟨G2, N2, by omega, LX2, DR2⟩
set_option maxHeartbeats 4000000 in
set_option maxRecDepth 100000 in
theorem lk_15 {L : Nat} {xs : Nat → Int32} {i : Int} (hL : L ≤ 3072) (h0 : 0 ≤ i) (h1 : i + 5 < L) (K : ∀ h, LI h → m_Y (xL L xs) oF M_law 1488 [some (mO 41), some (mR 0), some (mR 108), some (mI i)] [] h Ql) (h : m_H) (I : LI h) : m_Y (xL L xs) oF M_law 653 [some (mO 41), some (mR 0), some (mR 108), some (mI i)] [] h Ql := by
  obtain ⟨G0, N0, T0, LX0, DR0⟩ := I
  refine y_aload_n (M := M_law) 653 dL_law_653 rfl ?_
  refine y_aload_nO (M := M_law) 654 dL_law_654 rfl ?_
  refine y_iload_n (M := M_law) 655 dL_law_655 rfl ?_
  refine y_iconst (M := M_law) 656 dL_law_656 ?_
  refine y_iaddN (M := M_law) 657 dL_law_657 (by omega) (by omega) ?_
  refine y_sld (M := M_law) 658 dL_law_658 (by omega) (by omega) ?_
  refine y_aload_nO (M := M_law) 659 dL_law_659 rfl ?_
  refine y_iload_n (M := M_law) 660 dL_law_660 rfl ?_
  refine y_iconst (M := M_law) 661 dL_law_661 ?_
  refine y_iaddN (M := M_law) 662 dL_law_662 (by omega) (by omega) ?_
  refine y_sld (M := M_law) 663 dL_law_663 (by omega) (by omega) ?_
  refine y_aload_nO (M := M_law) 664 dL_law_664 rfl ?_
  refine y_iload_n (M := M_law) 665 dL_law_665 rfl ?_
  refine y_iconst (M := M_law) 666 dL_law_666 ?_
  refine y_iaddN (M := M_law) 667 dL_law_667 (by omega) (by omega) ?_
  refine y_sld (M := M_law) 668 dL_law_668 (by omega) (by omega) ?_
  refine y_vI (M := M_law) 669 dL_law_669 t_X11_feet ll_79 (m_rr_of rfl) (rest := []) (c_X11_feet h (sc xs (i + 1)) (sc xs (i + 2)) (sc xs (i + 3)) G0) o_0 rfl rfl rfl (Nat.le_of_ble_eq_true rfl) ⟨rfl, rfl⟩ (fun x1 h1 q1 => ?_)
  obtain ⟨G1, S1⟩ := q1
  have N1 := NP.call N0 S1 (fun _ => rfl) (fun _ => rfl) (fun _ => rfl)
  have u1 : h1 108 8 = h 108 8 := S1 108 8 rfl
  have w1 : h1 35 1 = h 35 1 := S1 35 1 rfl
  have LX1 := LX0.cls S1 (by decide) (by decide) (by decide) (by decide) (by decide)
  have DR1 := DR0.cls S1 (by decide) ⟨rfl, rfl, rfl⟩ (by decide)
  refine y_pop (M := M_law) 672 dL_law_672 rfl ?_
  refine y_aload_n (M := M_law) 673 dL_law_673 rfl ?_
  refine y_aload_nO (M := M_law) 674 dL_law_674 rfl ?_
  refine y_iload_n (M := M_law) 675 dL_law_675 rfl ?_
  refine y_iconst (M := M_law) 676 dL_law_676 ?_
  refine y_iaddN (M := M_law) 677 dL_law_677 (by omega) (by omega) ?_
  refine y_sld (M := M_law) 678 dL_law_678 (by omega) (by omega) ?_
  refine y_aload_nO (M := M_law) 679 dL_law_679 rfl ?_
  refine y_iload_n (M := M_law) 680 dL_law_680 rfl ?_
  refine y_iconst (M := M_law) 681 dL_law_681 ?_
  refine y_iaddN (M := M_law) 682 dL_law_682 (by omega) (by omega) ?_
  refine y_sld (M := M_law) 683 dL_law_683 (by omega) (by omega) ?_
  refine y_aload_nO (M := M_law) 684 dL_law_684 rfl ?_
  refine y_iload_n (M := M_law) 685 dL_law_685 rfl ?_
  refine y_iconst (M := M_law) 686 dL_law_686 ?_
  refine y_iaddN (M := M_law) 687 dL_law_687 (by omega) (by omega) ?_
  refine y_sld (M := M_law) 688 dL_law_688 (by omega) (by omega) ?_
  refine y_vI (M := M_law) 689 dL_law_689 t_X12_feet ll_82 (m_rr_of rfl) (rest := []) (c_X12_feet h1 (sc xs (i + 1)) (sc xs (i + 2)) (sc xs (i + 3)) G1 N1) o_108 rfl rfl rfl (Nat.le_of_ble_eq_true rfl) ⟨rfl, rfl⟩ (fun x2 h2 q2 => ?_)
  obtain ⟨G2, S2, p2_0, p2_1⟩ := q2
  have N2 := NP.call N1 S2 (fun _ => rfl) (fun _ => rfl) (fun _ => rfl)
  have u2 : h2 108 8 = h1 108 8 := S2 108 8 rfl
  have w2 : h2 35 1 = h1 35 1 := S2 35 1 rfl
  have LX2 := LX1.cls S2 (by decide) (by decide) (by decide) (by decide) (by decide)
  have DR2 := DR1.cls S2 (by decide) ⟨rfl, rfl, rfl⟩ (by decide)
  refine y_pop (M := M_law) 692 dL_law_692 rfl ?_
  refine y_goto (M := M_law) 693 dL_law_693 1488 rfl ?_
  exact K h2 ⟨G2, N2, by omega, LX2, DR2⟩
set_option maxHeartbeats 4000000 in
set_option maxRecDepth 100000 in
theorem lk_16 {L : Nat} {xs : Nat → Int32} {i : Int} (hL : L ≤ 3072) (h0 : 0 ≤ i) (h1 : i + 5 < L) (K : ∀ h, LI h → m_Y (xL L xs) oF M_law 1488 [some (mO 41), some (mR 0), some (mR 108), some (mI i)] [] h Ql) (h : m_H) (I : LI h) : m_Y (xL L xs) oF M_law 696 [some (mO 41), some (mR 0), some (mR 108), some (mI i)] [] h Ql := by
  obtain ⟨G0, N0, T0, LX0, DR0⟩ := I
  refine y_aload_n (M := M_law) 696 dL_law_696 rfl ?_
  refine y_aload_nO (M := M_law) 697 dL_law_697 rfl ?_
  refine y_iload_n (M := M_law) 698 dL_law_698 rfl ?_
  refine y_iconst (M := M_law) 699 dL_law_699 ?_
  refine y_iaddN (M := M_law) 700 dL_law_700 (by omega) (by omega) ?_
  refine y_sld (M := M_law) 701 dL_law_701 (by omega) (by omega) ?_
  refine y_aload_nO (M := M_law) 702 dL_law_702 rfl ?_
  refine y_iload_n (M := M_law) 703 dL_law_703 rfl ?_
  refine y_iconst (M := M_law) 704 dL_law_704 ?_
  refine y_iaddN (M := M_law) 705 dL_law_705 (by omega) (by omega) ?_
  refine y_sld (M := M_law) 706 dL_law_706 (by omega) (by omega) ?_
  refine y_aload_nO (M := M_law) 707 dL_law_707 rfl ?_
  refine y_iload_n (M := M_law) 708 dL_law_708 rfl ?_
  refine y_iconst (M := M_law) 709 dL_law_709 ?_
  refine y_iaddN (M := M_law) 710 dL_law_710 (by omega) (by omega) ?_
  refine y_sld (M := M_law) 711 dL_law_711 (by omega) (by omega) ?_
  refine y_vJ (M := M_law) 712 dL_law_712 t_X11_part ll_83 (m_rr_of rfl) (rest := []) (c_X11_part h (sc xs (i + 1)) (sc xs (i + 2)) (sc xs (i + 3)) G0) o_0 rfl rfl rfl (Nat.le_of_ble_eq_true rfl) ⟨rfl, rfl⟩ (fun x1 h1 q1 => ?_)
  obtain ⟨G1, S1⟩ := q1
  have N1 := NP.call N0 S1 (fun _ => rfl) (fun _ => rfl) (fun _ => rfl)
  have u1 : h1 108 8 = h 108 8 := S1 108 8 rfl
  have w1 : h1 35 1 = h 35 1 := S1 35 1 rfl
  have LX1 := LX0.cls S1 (by decide) (by decide) (by decide) (by decide) (by decide)
  have DR1 := DR0.cls S1 (by decide) ⟨rfl, rfl, rfl⟩ (by decide)
  refine y_pop2 (M := M_law) 715 dL_law_715 rfl ?_
  refine y_aload_n (M := M_law) 716 dL_law_716 rfl ?_
  refine y_aload_nO (M := M_law) 717 dL_law_717 rfl ?_
  refine y_iload_n (M := M_law) 718 dL_law_718 rfl ?_
  refine y_iconst (M := M_law) 719 dL_law_719 ?_
  refine y_iaddN (M := M_law) 720 dL_law_720 (by omega) (by omega) ?_
  refine y_sld (M := M_law) 721 dL_law_721 (by omega) (by omega) ?_
  refine y_aload_nO (M := M_law) 722 dL_law_722 rfl ?_
  refine y_iload_n (M := M_law) 723 dL_law_723 rfl ?_
  refine y_iconst (M := M_law) 724 dL_law_724 ?_
  refine y_iaddN (M := M_law) 725 dL_law_725 (by omega) (by omega) ?_
  refine y_sld (M := M_law) 726 dL_law_726 (by omega) (by omega) ?_
  refine y_aload_nO (M := M_law) 727 dL_law_727 rfl ?_
  refine y_iload_n (M := M_law) 728 dL_law_728 rfl ?_
  refine y_iconst (M := M_law) 729 dL_law_729 ?_
  refine y_iaddN (M := M_law) 730 dL_law_730 (by omega) (by omega) ?_
  refine y_sld (M := M_law) 731 dL_law_731 (by omega) (by omega) ?_
  refine y_vJ (M := M_law) 732 dL_law_732 t_X12_part ll_87 (m_rr_of rfl) (rest := []) (c_X12_part h1 (sc xs (i + 1)) (sc xs (i + 2)) (sc xs (i + 3)) G1 N1) o_108 rfl rfl rfl (Nat.le_of_ble_eq_true rfl) ⟨rfl, rfl⟩ (fun x2 h2 q2 => ?_)
  obtain ⟨G2, S2⟩ := q2
  have N2 := NP.call N1 S2 (fun _ => rfl) (fun _ => rfl) (fun _ => rfl)
  have u2 : h2 108 8 = h1 108 8 := S2 108 8 rfl
  have w2 : h2 35 1 = h1 35 1 := S2 35 1 rfl
  have LX2 := LX1.cls S2 (by decide) (by decide) (by decide) (by decide) (by decide)
  have DR2 := DR1.cls S2 (by decide) ⟨rfl, rfl, rfl⟩ (by decide)
  refine y_pop2 (M := M_law) 735 dL_law_735 rfl ?_
  refine y_goto (M := M_law) 736 dL_law_736 1488 rfl ?_
  exact K h2 ⟨G2, N2, by omega, LX2, DR2⟩
set_option maxHeartbeats 4000000 in
set_option maxRecDepth 100000 in
theorem lk_17 {L : Nat} {xs : Nat → Int32} {i : Int} (hL : L ≤ 3072) (h0 : 0 ≤ i) (h1 : i + 5 < L) (K : ∀ h, LI h → m_Y (xL L xs) oF M_law 1488 [some (mO 41), some (mR 0), some (mR 108), some (mI i)] [] h Ql) (h : m_H) (I : LI h) : m_Y (xL L xs) oF M_law 739 [some (mO 41), some (mR 0), some (mR 108), some (mI i)] [] h Ql := by
  obtain ⟨G0, N0, T0, LX0, DR0⟩ := I
  refine y_aload_n (M := M_law) 739 dL_law_739 rfl ?_
  refine y_aload_nO (M := M_law) 740 dL_law_740 rfl ?_
  refine y_iload_n (M := M_law) 741 dL_law_741 rfl ?_
  refine y_iconst (M := M_law) 742 dL_law_742 ?_
  refine y_iaddN (M := M_law) 743 dL_law_743 (by omega) (by omega) ?_
  refine y_sld (M := M_law) 744 dL_law_744 (by omega) (by omega) ?_
  refine y_aload_nO (M := M_law) 745 dL_law_745 rfl ?_
  refine y_iload_n (M := M_law) 746 dL_law_746 rfl ?_
  refine y_iconst (M := M_law) 747 dL_law_747 ?_
  refine y_iaddN (M := M_law) 748 dL_law_748 (by omega) (by omega) ?_
  refine y_sld (M := M_law) 749 dL_law_749 (by omega) (by omega) ?_
  refine y_aload_nO (M := M_law) 750 dL_law_750 rfl ?_
  refine y_iload_n (M := M_law) 751 dL_law_751 rfl ?_
  refine y_iconst (M := M_law) 752 dL_law_752 ?_
  refine y_iaddN (M := M_law) 753 dL_law_753 (by omega) (by omega) ?_
  refine y_sld (M := M_law) 754 dL_law_754 (by omega) (by omega) ?_
  refine y_aload_nO (M := M_law) 755 dL_law_755 rfl ?_
  refine y_iload_n (M := M_law) 756 dL_law_756 rfl ?_
  refine y_iconst (M := M_law) 757 dL_law_757 ?_
  refine y_iaddN (M := M_law) 758 dL_law_758 (by omega) (by omega) ?_
  refine y_sld (M := M_law) 759 dL_law_759 (by omega) (by omega) ?_
  refine y_aload_nO (M := M_law) 760 dL_law_760 rfl ?_
  refine y_iload_n (M := M_law) 761 dL_law_761 rfl ?_
  refine y_iconst (M := M_law) 762 dL_law_762 ?_
  refine y_iaddN (M := M_law) 763 dL_law_763 (by omega) (by omega) ?_
  refine y_sld (M := M_law) 764 dL_law_764 (by omega) (by omega) ?_
  refine y_vI (M := M_law) 765 dL_law_765 t_X11_lay ll_88 (m_rr_of rfl) (rest := []) (c_X11_lay h (sc xs (i + 1)) (sc xs (i + 2)) (sc xs (i + 3)) (sc xs (i + 4)) (sc xs (i + 5)) G0) o_0 rfl rfl rfl (Nat.le_of_ble_eq_true rfl) ⟨rfl, rfl⟩ (fun x1 h1 q1 => ?_)
  obtain ⟨G1, S1⟩ := q1
  have N1 := NP.call N0 S1 (fun _ => rfl) (fun _ => rfl) (fun _ => rfl)
  have u1 : h1 108 8 = h 108 8 := S1 108 8 rfl
  have w1 : h1 35 1 = h 35 1 := S1 35 1 rfl
  have LX1 := LX0.cls S1 (by decide) (by decide) (by decide) (by decide) (by decide)
  have DR1 := DR0.cls S1 (by decide) ⟨rfl, rfl, rfl⟩ (by decide)
  refine y_pop (M := M_law) 768 dL_law_768 rfl ?_
  refine y_aload_n (M := M_law) 769 dL_law_769 rfl ?_
  refine y_aload_nO (M := M_law) 770 dL_law_770 rfl ?_
  refine y_iload_n (M := M_law) 771 dL_law_771 rfl ?_
  refine y_iconst (M := M_law) 772 dL_law_772 ?_
  refine y_iaddN (M := M_law) 773 dL_law_773 (by omega) (by omega) ?_
  refine y_sld (M := M_law) 774 dL_law_774 (by omega) (by omega) ?_
  refine y_aload_nO (M := M_law) 775 dL_law_775 rfl ?_
  refine y_iload_n (M := M_law) 776 dL_law_776 rfl ?_
  refine y_iconst (M := M_law) 777 dL_law_777 ?_
  refine y_iaddN (M := M_law) 778 dL_law_778 (by omega) (by omega) ?_
  refine y_sld (M := M_law) 779 dL_law_779 (by omega) (by omega) ?_
  refine y_aload_nO (M := M_law) 780 dL_law_780 rfl ?_
  refine y_iload_n (M := M_law) 781 dL_law_781 rfl ?_
  refine y_iconst (M := M_law) 782 dL_law_782 ?_
  refine y_iaddN (M := M_law) 783 dL_law_783 (by omega) (by omega) ?_
  refine y_sld (M := M_law) 784 dL_law_784 (by omega) (by omega) ?_
  refine y_aload_nO (M := M_law) 785 dL_law_785 rfl ?_
  refine y_iload_n (M := M_law) 786 dL_law_786 rfl ?_
  refine y_iconst (M := M_law) 787 dL_law_787 ?_
  refine y_iaddN (M := M_law) 788 dL_law_788 (by omega) (by omega) ?_
  refine y_sld (M := M_law) 789 dL_law_789 (by omega) (by omega) ?_
  refine y_aload_nO (M := M_law) 790 dL_law_790 rfl ?_
  refine y_iload_n (M := M_law) 791 dL_law_791 rfl ?_
  refine y_iconst (M := M_law) 792 dL_law_792 ?_
  refine y_iaddN (M := M_law) 793 dL_law_793 (by omega) (by omega) ?_
  refine y_sld (M := M_law) 794 dL_law_794 (by omega) (by omega) ?_
  refine y_vI (M := M_law) 795 dL_law_795 t_X12_lay ll_91 (m_rr_of rfl) (rest := []) (c_X12_lay h1 (sc xs (i + 1)) (sc xs (i + 2)) (sc xs (i + 3)) (sc xs (i + 4)) (sc xs (i + 5)) G1 N1) o_108 rfl rfl rfl (Nat.le_of_ble_eq_true rfl) ⟨rfl, rfl⟩ (fun x2 h2 q2 => ?_)
  obtain ⟨G2, S2, p2_0, p2_1⟩ := q2
  have N2 := NP.call N1 S2 (fun _ => rfl) (fun _ => rfl) (fun _ => rfl)
  have u2 : h2 108 8 = h1 108 8 := S2 108 8 rfl
  have w2 : h2 35 1 = h1 35 1 := S2 35 1 rfl
  have LX2 := LX1.cls S2 (by decide) (by decide) (by decide) (by decide) (by decide)
  have DR2 := DR1.cls S2 (by decide) ⟨rfl, rfl, rfl⟩ (by decide)
  refine y_pop (M := M_law) 798 dL_law_798 rfl ?_
  refine y_goto (M := M_law) 799 dL_law_799 1488 rfl ?_
  exact K h2 ⟨G2, N2, by omega, LX2, DR2⟩
set_option maxHeartbeats 4000000 in
set_option maxRecDepth 100000 in
theorem lk_18 {L : Nat} {xs : Nat → Int32} {i : Int} (hL : L ≤ 3072) (h0 : 0 ≤ i) (h1 : i + 5 < L) (K : ∀ h, LI h → m_Y (xL L xs) oF M_law 1488 [some (mO 41), some (mR 0), some (mR 108), some (mI i)] [] h Ql) (h : m_H) (I : LI h) : m_Y (xL L xs) oF M_law 802 [some (mO 41), some (mR 0), some (mR 108), some (mI i)] [] h Ql := by
  obtain ⟨G0, N0, T0, LX0, DR0⟩ := I
  refine y_aload_n (M := M_law) 802 dL_law_802 rfl ?_
  refine y_aload_nO (M := M_law) 803 dL_law_803 rfl ?_
  refine y_iload_n (M := M_law) 804 dL_law_804 rfl ?_
  refine y_iconst (M := M_law) 805 dL_law_805 ?_
  refine y_iaddN (M := M_law) 806 dL_law_806 (by omega) (by omega) ?_
  refine y_sld (M := M_law) 807 dL_law_807 (by omega) (by omega) ?_
  refine y_aload_nO (M := M_law) 808 dL_law_808 rfl ?_
  refine y_iload_n (M := M_law) 809 dL_law_809 rfl ?_
  refine y_iconst (M := M_law) 810 dL_law_810 ?_
  refine y_iaddN (M := M_law) 811 dL_law_811 (by omega) (by omega) ?_
  refine y_sld (M := M_law) 812 dL_law_812 (by omega) (by omega) ?_
  refine y_aload_nO (M := M_law) 813 dL_law_813 rfl ?_
  refine y_iload_n (M := M_law) 814 dL_law_814 rfl ?_
  refine y_iconst (M := M_law) 815 dL_law_815 ?_
  refine y_iaddN (M := M_law) 816 dL_law_816 (by omega) (by omega) ?_
  refine y_sld (M := M_law) 817 dL_law_817 (by omega) (by omega) ?_
  refine y_aload_nO (M := M_law) 818 dL_law_818 rfl ?_
  refine y_iload_n (M := M_law) 819 dL_law_819 rfl ?_
  refine y_iconst (M := M_law) 820 dL_law_820 ?_
  refine y_iaddN (M := M_law) 821 dL_law_821 (by omega) (by omega) ?_
  refine y_sld (M := M_law) 822 dL_law_822 (by omega) (by omega) ?_
  refine y_vI (M := M_law) 823 dL_law_823 t_X11_area ll_92 (m_rr_of rfl) (rest := []) (c_X11_area h (sc xs (i + 1)) (sc xs (i + 2)) (sc xs (i + 3)) (sc xs (i + 4)) G0) o_0 rfl rfl rfl (Nat.le_of_ble_eq_true rfl) ⟨rfl, rfl⟩ (fun x1 h1 q1 => ?_)
  obtain ⟨G1, S1⟩ := q1
  have N1 := NP.call N0 S1 (fun _ => rfl) (fun _ => rfl) (fun _ => rfl)
  have u1 : h1 108 8 = h 108 8 := S1 108 8 rfl
  have w1 : h1 35 1 = h 35 1 := S1 35 1 rfl
  have LX1 := LX0.cls S1 (by decide) (by decide) (by decide) (by decide) (by decide)
  have DR1 := DR0.cls S1 (by decide) ⟨rfl, rfl, rfl⟩ (by decide)
  refine y_pop (M := M_law) 826 dL_law_826 rfl ?_
  refine y_aload_n (M := M_law) 827 dL_law_827 rfl ?_
  refine y_aload_nO (M := M_law) 828 dL_law_828 rfl ?_
  refine y_iload_n (M := M_law) 829 dL_law_829 rfl ?_
  refine y_iconst (M := M_law) 830 dL_law_830 ?_
  refine y_iaddN (M := M_law) 831 dL_law_831 (by omega) (by omega) ?_
  refine y_sld (M := M_law) 832 dL_law_832 (by omega) (by omega) ?_
  refine y_aload_nO (M := M_law) 833 dL_law_833 rfl ?_
  refine y_iload_n (M := M_law) 834 dL_law_834 rfl ?_
  refine y_iconst (M := M_law) 835 dL_law_835 ?_
  refine y_iaddN (M := M_law) 836 dL_law_836 (by omega) (by omega) ?_
  refine y_sld (M := M_law) 837 dL_law_837 (by omega) (by omega) ?_
  refine y_aload_nO (M := M_law) 838 dL_law_838 rfl ?_
  refine y_iload_n (M := M_law) 839 dL_law_839 rfl ?_
  refine y_iconst (M := M_law) 840 dL_law_840 ?_
  refine y_iaddN (M := M_law) 841 dL_law_841 (by omega) (by omega) ?_
  refine y_sld (M := M_law) 842 dL_law_842 (by omega) (by omega) ?_
  refine y_aload_nO (M := M_law) 843 dL_law_843 rfl ?_
  refine y_iload_n (M := M_law) 844 dL_law_844 rfl ?_
  refine y_iconst (M := M_law) 845 dL_law_845 ?_
  refine y_iaddN (M := M_law) 846 dL_law_846 (by omega) (by omega) ?_
  refine y_sld (M := M_law) 847 dL_law_847 (by omega) (by omega) ?_
  refine y_vI (M := M_law) 848 dL_law_848 t_X12_area ll_95 (m_rr_of rfl) (rest := []) (c_X12_area h1 (sc xs (i + 1)) (sc xs (i + 2)) (sc xs (i + 3)) (sc xs (i + 4)) G1 N1) o_108 rfl rfl rfl (Nat.le_of_ble_eq_true rfl) ⟨rfl, rfl⟩ (fun x2 h2 q2 => ?_)
  obtain ⟨G2, S2, p2_0, p2_1⟩ := q2
  have N2 := NP.call N1 S2 (fun _ => rfl) (fun _ => rfl) (fun _ => rfl)
  have u2 : h2 108 8 = h1 108 8 := S2 108 8 rfl
  have w2 : h2 35 1 = h1 35 1 := S2 35 1 rfl
  have LX2 := LX1.cls S2 (by decide) (by decide) (by decide) (by decide) (by decide)
  have DR2 := DR1.cls S2 (by decide) ⟨rfl, rfl, rfl⟩ (by decide)
  refine y_pop (M := M_law) 851 dL_law_851 rfl ?_
  refine y_goto (M := M_law) 852 dL_law_852 1488 rfl ?_
  exact K h2 ⟨G2, N2, by omega, LX2, DR2⟩
set_option maxHeartbeats 4000000 in
set_option maxRecDepth 100000 in
theorem lk_19 {L : Nat} {xs : Nat → Int32} {i : Int} (hL : L ≤ 3072) (h0 : 0 ≤ i) (h1 : i + 5 < L) (K : ∀ h, LI h → m_Y (xL L xs) oF M_law 1488 [some (mO 41), some (mR 0), some (mR 108), some (mI i)] [] h Ql) (h : m_H) (I : LI h) : m_Y (xL L xs) oF M_law 855 [some (mO 41), some (mR 0), some (mR 108), some (mI i)] [] h Ql := by
  obtain ⟨G0, N0, T0, LX0, DR0⟩ := I
  refine y_aload_n (M := M_law) 855 dL_law_855 rfl ?_
  refine y_aload_nO (M := M_law) 856 dL_law_856 rfl ?_
  refine y_iload_n (M := M_law) 857 dL_law_857 rfl ?_
  refine y_iconst (M := M_law) 858 dL_law_858 ?_
  refine y_iaddN (M := M_law) 859 dL_law_859 (by omega) (by omega) ?_
  refine y_sld (M := M_law) 860 dL_law_860 (by omega) (by omega) ?_
  refine y_aload_nO (M := M_law) 861 dL_law_861 rfl ?_
  refine y_iload_n (M := M_law) 862 dL_law_862 rfl ?_
  refine y_iconst (M := M_law) 863 dL_law_863 ?_
  refine y_iaddN (M := M_law) 864 dL_law_864 (by omega) (by omega) ?_
  refine y_sld (M := M_law) 865 dL_law_865 (by omega) (by omega) ?_
  refine y_aload_nO (M := M_law) 866 dL_law_866 rfl ?_
  refine y_iload_n (M := M_law) 867 dL_law_867 rfl ?_
  refine y_iconst (M := M_law) 868 dL_law_868 ?_
  refine y_iaddN (M := M_law) 869 dL_law_869 (by omega) (by omega) ?_
  refine y_sld (M := M_law) 870 dL_law_870 (by omega) (by omega) ?_
  refine y_aload_nO (M := M_law) 871 dL_law_871 rfl ?_
  refine y_iload_n (M := M_law) 872 dL_law_872 rfl ?_
  refine y_iconst (M := M_law) 873 dL_law_873 ?_
  refine y_iaddN (M := M_law) 874 dL_law_874 (by omega) (by omega) ?_
  refine y_sld (M := M_law) 875 dL_law_875 (by omega) (by omega) ?_
  refine y_vI (M := M_law) 876 dL_law_876 t_X11_would ll_96 (m_rr_of rfl) (rest := []) (c_X11_would h (sc xs (i + 1)) (sc xs (i + 2)) (sc xs (i + 3)) (sc xs (i + 4)) G0) o_0 rfl rfl rfl (Nat.le_of_ble_eq_true rfl) ⟨rfl, rfl⟩ (fun x1 h1 q1 => ?_)
  obtain ⟨G1, S1, p1_0, p1_1⟩ := q1
  have N1 := NP.call N0 S1 (fun _ => rfl) (fun _ => rfl) (fun _ => rfl)
  have u1 : h1 108 8 = h 108 8 := S1 108 8 rfl
  have w1 : h1 35 1 = h 35 1 := S1 35 1 rfl
  have LX1 := LX0.cls S1 (by decide) (by decide) (by decide) (by decide) (by decide)
  have DR1 := DR0.cls S1 (by decide) ⟨rfl, rfl, rfl⟩ (by decide)
  refine y_pop (M := M_law) 879 dL_law_879 rfl ?_
  refine y_aload_n (M := M_law) 880 dL_law_880 rfl ?_
  refine y_aload_nO (M := M_law) 881 dL_law_881 rfl ?_
  refine y_iload_n (M := M_law) 882 dL_law_882 rfl ?_
  refine y_iconst (M := M_law) 883 dL_law_883 ?_
  refine y_iaddN (M := M_law) 884 dL_law_884 (by omega) (by omega) ?_
  refine y_sld (M := M_law) 885 dL_law_885 (by omega) (by omega) ?_
  refine y_aload_nO (M := M_law) 886 dL_law_886 rfl ?_
  refine y_iload_n (M := M_law) 887 dL_law_887 rfl ?_
  refine y_iconst (M := M_law) 888 dL_law_888 ?_
  refine y_iaddN (M := M_law) 889 dL_law_889 (by omega) (by omega) ?_
  refine y_sld (M := M_law) 890 dL_law_890 (by omega) (by omega) ?_
  refine y_aload_nO (M := M_law) 891 dL_law_891 rfl ?_
  refine y_iload_n (M := M_law) 892 dL_law_892 rfl ?_
  refine y_iconst (M := M_law) 893 dL_law_893 ?_
  refine y_iaddN (M := M_law) 894 dL_law_894 (by omega) (by omega) ?_
  refine y_sld (M := M_law) 895 dL_law_895 (by omega) (by omega) ?_
  refine y_aload_nO (M := M_law) 896 dL_law_896 rfl ?_
  refine y_iload_n (M := M_law) 897 dL_law_897 rfl ?_
  refine y_iconst (M := M_law) 898 dL_law_898 ?_
  refine y_iaddN (M := M_law) 899 dL_law_899 (by omega) (by omega) ?_
  refine y_sld (M := M_law) 900 dL_law_900 (by omega) (by omega) ?_
  refine y_vI (M := M_law) 901 dL_law_901 t_X12_would ll_99 (m_rr_of rfl) (rest := []) (c_X12_would h1 (sc xs (i + 1)) (sc xs (i + 2)) (sc xs (i + 3)) (sc xs (i + 4)) G1 N1) o_108 rfl rfl rfl (Nat.le_of_ble_eq_true rfl) ⟨rfl, rfl⟩ (fun x2 h2 q2 => ?_)
  obtain ⟨G2, S2, p2_0, p2_1⟩ := q2
  have N2 := NP.call N1 S2 (fun _ => rfl) (fun _ => rfl) (fun _ => rfl)
  have u2 : h2 108 8 = h1 108 8 := S2 108 8 rfl
  have w2 : h2 35 1 = h1 35 1 := S2 35 1 rfl
  have LX2 := LX1.cls S2 (by decide) (by decide) (by decide) (by decide) (by decide)
  have DR2 := DR1.cls S2 (by decide) ⟨rfl, rfl, rfl⟩ (by decide)
  refine y_pop (M := M_law) 904 dL_law_904 rfl ?_
  refine y_goto (M := M_law) 905 dL_law_905 1488 rfl ?_
  exact K h2 ⟨G2, N2, by omega, LX2, DR2⟩
set_option maxHeartbeats 4000000 in
set_option maxRecDepth 100000 in
theorem lk_20 {L : Nat} {xs : Nat → Int32} {i : Int} (hL : L ≤ 3072) (h0 : 0 ≤ i) (h1 : i + 5 < L) (K : ∀ h, LI h → m_Y (xL L xs) oF M_law 1488 [some (mO 41), some (mR 0), some (mR 108), some (mI i)] [] h Ql) (h : m_H) (I : LI h) : m_Y (xL L xs) oF M_law 908 [some (mO 41), some (mR 0), some (mR 108), some (mI i)] [] h Ql := by
  obtain ⟨G0, N0, T0, LX0, DR0⟩ := I
  refine y_aload_n (M := M_law) 908 dL_law_908 rfl ?_
  refine y_aload_nO (M := M_law) 909 dL_law_909 rfl ?_
  refine y_iload_n (M := M_law) 910 dL_law_910 rfl ?_
  refine y_iconst (M := M_law) 911 dL_law_911 ?_
  refine y_iaddN (M := M_law) 912 dL_law_912 (by omega) (by omega) ?_
  refine y_sld (M := M_law) 913 dL_law_913 (by omega) (by omega) ?_
  refine y_aload_nO (M := M_law) 914 dL_law_914 rfl ?_
  refine y_iload_n (M := M_law) 915 dL_law_915 rfl ?_
  refine y_iconst (M := M_law) 916 dL_law_916 ?_
  refine y_iaddN (M := M_law) 917 dL_law_917 (by omega) (by omega) ?_
  refine y_sld (M := M_law) 918 dL_law_918 (by omega) (by omega) ?_
  refine y_aload_nO (M := M_law) 919 dL_law_919 rfl ?_
  refine y_iload_n (M := M_law) 920 dL_law_920 rfl ?_
  refine y_iconst (M := M_law) 921 dL_law_921 ?_
  refine y_iaddN (M := M_law) 922 dL_law_922 (by omega) (by omega) ?_
  refine y_sld (M := M_law) 923 dL_law_923 (by omega) (by omega) ?_
  refine y_aload_nO (M := M_law) 924 dL_law_924 rfl ?_
  refine y_iload_n (M := M_law) 925 dL_law_925 rfl ?_
  refine y_iconst (M := M_law) 926 dL_law_926 ?_
  refine y_iaddN (M := M_law) 927 dL_law_927 (by omega) (by omega) ?_
  refine y_sld (M := M_law) 928 dL_law_928 (by omega) (by omega) ?_
  refine y_vI (M := M_law) 929 dL_law_929 t_X11_numbers ll_100 (m_rr_of rfl) (rest := []) (c_X11_numbers h (sc xs (i + 1)) (sc xs (i + 2)) (sc xs (i + 3)) (sc xs (i + 4)) G0) o_0 rfl rfl rfl (Nat.le_of_ble_eq_true rfl) ⟨rfl, rfl⟩ (fun x1 h1 q1 => ?_)
  obtain ⟨G1, S1⟩ := q1
  have N1 := NP.call N0 S1 (fun _ => rfl) (fun _ => rfl) (fun _ => rfl)
  have u1 : h1 108 8 = h 108 8 := S1 108 8 rfl
  have w1 : h1 35 1 = h 35 1 := S1 35 1 rfl
  have LX1 := LX0.cls S1 (by decide) (by decide) (by decide) (by decide) (by decide)
  have DR1 := DR0.cls S1 (by decide) ⟨rfl, rfl, rfl⟩ (by decide)
  refine y_pop (M := M_law) 932 dL_law_932 rfl ?_
  refine y_aload_n (M := M_law) 933 dL_law_933 rfl ?_
  refine y_aload_nO (M := M_law) 934 dL_law_934 rfl ?_
  refine y_iload_n (M := M_law) 935 dL_law_935 rfl ?_
  refine y_iconst (M := M_law) 936 dL_law_936 ?_
  refine y_iaddN (M := M_law) 937 dL_law_937 (by omega) (by omega) ?_
  refine y_sld (M := M_law) 938 dL_law_938 (by omega) (by omega) ?_
  refine y_aload_nO (M := M_law) 939 dL_law_939 rfl ?_
  refine y_iload_n (M := M_law) 940 dL_law_940 rfl ?_
  refine y_iconst (M := M_law) 941 dL_law_941 ?_
  refine y_iaddN (M := M_law) 942 dL_law_942 (by omega) (by omega) ?_
  refine y_sld (M := M_law) 943 dL_law_943 (by omega) (by omega) ?_
  refine y_aload_nO (M := M_law) 944 dL_law_944 rfl ?_
  refine y_iload_n (M := M_law) 945 dL_law_945 rfl ?_
  refine y_iconst (M := M_law) 946 dL_law_946 ?_
  refine y_iaddN (M := M_law) 947 dL_law_947 (by omega) (by omega) ?_
  refine y_sld (M := M_law) 948 dL_law_948 (by omega) (by omega) ?_
  refine y_aload_nO (M := M_law) 949 dL_law_949 rfl ?_
  refine y_iload_n (M := M_law) 950 dL_law_950 rfl ?_
  refine y_iconst (M := M_law) 951 dL_law_951 ?_
  refine y_iaddN (M := M_law) 952 dL_law_952 (by omega) (by omega) ?_
  refine y_sld (M := M_law) 953 dL_law_953 (by omega) (by omega) ?_
  refine y_vI (M := M_law) 954 dL_law_954 t_X12_numbers ll_103 (m_rr_of rfl) (rest := []) (c_X12_numbers h1 (sc xs (i + 1)) (sc xs (i + 2)) (sc xs (i + 3)) (sc xs (i + 4)) G1 N1) o_108 rfl rfl rfl (Nat.le_of_ble_eq_true rfl) ⟨rfl, rfl⟩ (fun x2 h2 q2 => ?_)
  obtain ⟨G2, S2⟩ := q2
  have N2 := NP.call N1 S2 (fun _ => rfl) (fun _ => rfl) (fun _ => rfl)
  have u2 : h2 108 8 = h1 108 8 := S2 108 8 rfl
  have w2 : h2 35 1 = h1 35 1 := S2 35 1 rfl
  have LX2 := LX1.cls S2 (by decide) (by decide) (by decide) (by decide) (by decide)
  have DR2 := DR1.cls S2 (by decide) ⟨rfl, rfl, rfl⟩ (by decide)
  refine y_pop (M := M_law) 957 dL_law_957 rfl ?_
  refine y_goto (M := M_law) 958 dL_law_958 1488 rfl ?_
  exact K h2 ⟨G2, N2, by omega, LX2, DR2⟩
set_option maxHeartbeats 4000000 in
set_option maxRecDepth 100000 in
theorem lk_21 {L : Nat} {xs : Nat → Int32} {i : Int} (hL : L ≤ 3072) (h0 : 0 ≤ i) (h1 : i + 5 < L) (K : ∀ h, LI h → m_Y (xL L xs) oF M_law 1488 [some (mO 41), some (mR 0), some (mR 108), some (mI i)] [] h Ql) (h : m_H) (I : LI h) : m_Y (xL L xs) oF M_law 961 [some (mO 41), some (mR 0), some (mR 108), some (mI i)] [] h Ql := by
  obtain ⟨G0, N0, T0, LX0, DR0⟩ := I
  refine y_aload_n (M := M_law) 961 dL_law_961 rfl ?_
  refine y_aload_nO (M := M_law) 962 dL_law_962 rfl ?_
  refine y_iload_n (M := M_law) 963 dL_law_963 rfl ?_
  refine y_iconst (M := M_law) 964 dL_law_964 ?_
  refine y_iaddN (M := M_law) 965 dL_law_965 (by omega) (by omega) ?_
  refine y_sld (M := M_law) 966 dL_law_966 (by omega) (by omega) ?_
  refine y_vI (M := M_law) 967 dL_law_967 t_X11_ask ll_104 (m_rr_of rfl) (rest := []) (c_X11_ask h (sc xs (i + 1)) G0) o_0 rfl rfl rfl (Nat.le_of_ble_eq_true rfl) ⟨rfl, rfl⟩ (fun x1 h1 q1 => ?_)
  obtain ⟨G1, S1, p1_0, p1_1⟩ := q1
  have N1 := NP.call N0 S1 (fun _ => rfl) (fun _ => rfl) (fun _ => rfl)
  have u1 : h1 108 8 = h 108 8 := S1 108 8 rfl
  have w1 : h1 35 1 = h 35 1 := S1 35 1 rfl
  have LX1 := LX0.cls S1 (by decide) (by decide) (by decide) (by decide) (by decide)
  have DR1 := DR0.cls S1 (by decide) ⟨rfl, rfl, rfl⟩ (by decide)
  refine y_pop (M := M_law) 970 dL_law_970 rfl ?_
  refine y_aload_n (M := M_law) 971 dL_law_971 rfl ?_
  refine y_aload_nO (M := M_law) 972 dL_law_972 rfl ?_
  refine y_iload_n (M := M_law) 973 dL_law_973 rfl ?_
  refine y_iconst (M := M_law) 974 dL_law_974 ?_
  refine y_iaddN (M := M_law) 975 dL_law_975 (by omega) (by omega) ?_
  refine y_sld (M := M_law) 976 dL_law_976 (by omega) (by omega) ?_
  refine y_vI (M := M_law) 977 dL_law_977 t_X12_ask ll_107 (m_rr_of rfl) (rest := []) (c_X12_ask h1 (sc xs (i + 1)) G1 N1) o_108 rfl rfl rfl (Nat.le_of_ble_eq_true rfl) ⟨rfl, rfl⟩ (fun x2 h2 q2 => ?_)
  obtain ⟨G2, S2⟩ := q2
  have N2 := NP.call N1 S2 (fun _ => rfl) (fun _ => rfl) (fun _ => rfl)
  have u2 : h2 108 8 = h1 108 8 := S2 108 8 rfl
  have w2 : h2 35 1 = h1 35 1 := S2 35 1 rfl
  have LX2 := LX1.cls S2 (by decide) (by decide) (by decide) (by decide) (by decide)
  have DR2 := DR1.cls S2 (by decide) ⟨rfl, rfl, rfl⟩ (by decide)
  refine y_pop (M := M_law) 980 dL_law_980 rfl ?_
  refine y_goto (M := M_law) 981 dL_law_981 1488 rfl ?_
  exact K h2 ⟨G2, N2, by omega, LX2, DR2⟩
set_option maxHeartbeats 4000000 in
set_option maxRecDepth 100000 in
theorem lk_22 {L : Nat} {xs : Nat → Int32} {i : Int} (hL : L ≤ 3072) (h0 : 0 ≤ i) (h1 : i + 5 < L) (K : ∀ h, LI h → m_Y (xL L xs) oF M_law 1488 [some (mO 41), some (mR 0), some (mR 108), some (mI i)] [] h Ql) (h : m_H) (I : LI h) : m_Y (xL L xs) oF M_law 984 [some (mO 41), some (mR 0), some (mR 108), some (mI i)] [] h Ql := by
  obtain ⟨G0, N0, T0, LX0, DR0⟩ := I
  refine y_aload_n (M := M_law) 984 dL_law_984 rfl ?_
  refine y_aload_nO (M := M_law) 985 dL_law_985 rfl ?_
  refine y_iload_n (M := M_law) 986 dL_law_986 rfl ?_
  refine y_iconst (M := M_law) 987 dL_law_987 ?_
  refine y_iaddN (M := M_law) 988 dL_law_988 (by omega) (by omega) ?_
  refine y_sld (M := M_law) 989 dL_law_989 (by omega) (by omega) ?_
  refine y_aload_nO (M := M_law) 990 dL_law_990 rfl ?_
  refine y_iload_n (M := M_law) 991 dL_law_991 rfl ?_
  refine y_iconst (M := M_law) 992 dL_law_992 ?_
  refine y_iaddN (M := M_law) 993 dL_law_993 (by omega) (by omega) ?_
  refine y_sld (M := M_law) 994 dL_law_994 (by omega) (by omega) ?_
  refine y_aload_nO (M := M_law) 995 dL_law_995 rfl ?_
  refine y_iload_n (M := M_law) 996 dL_law_996 rfl ?_
  refine y_iconst (M := M_law) 997 dL_law_997 ?_
  refine y_iaddN (M := M_law) 998 dL_law_998 (by omega) (by omega) ?_
  refine y_sld (M := M_law) 999 dL_law_999 (by omega) (by omega) ?_
  refine y_aload_nO (M := M_law) 1000 dL_law_1000 rfl ?_
  refine y_iload_n (M := M_law) 1001 dL_law_1001 rfl ?_
  refine y_iconst (M := M_law) 1002 dL_law_1002 ?_
  refine y_iaddN (M := M_law) 1003 dL_law_1003 (by omega) (by omega) ?_
  refine y_sld (M := M_law) 1004 dL_law_1004 (by omega) (by omega) ?_
  refine y_vI (M := M_law) 1005 dL_law_1005 t_X11_dates ll_108 (m_rr_of rfl) (rest := []) (c_X11_dates h (sc xs (i + 1)) (sc xs (i + 2)) (sc xs (i + 3)) (sc xs (i + 4)) G0) o_0 rfl rfl rfl (Nat.le_of_ble_eq_true rfl) ⟨rfl, rfl⟩ (fun x1 h1 q1 => ?_)
  obtain ⟨G1, S1, p1_0, p1_1⟩ := q1
  have N1 := NP.call N0 S1 (fun _ => rfl) (fun _ => rfl) (fun _ => rfl)
  have u1 : h1 108 8 = h 108 8 := S1 108 8 rfl
  have w1 : h1 35 1 = h 35 1 := S1 35 1 rfl
  have LX1 := LX0.cls S1 (by decide) (by decide) (by decide) (by decide) (by decide)
  have DR1 := DR0.cls S1 (by decide) ⟨rfl, rfl, rfl⟩ (by decide)
  refine y_pop (M := M_law) 1008 dL_law_1008 rfl ?_
  refine y_aload_n (M := M_law) 1009 dL_law_1009 rfl ?_
  refine y_aload_nO (M := M_law) 1010 dL_law_1010 rfl ?_
  refine y_iload_n (M := M_law) 1011 dL_law_1011 rfl ?_
  refine y_iconst (M := M_law) 1012 dL_law_1012 ?_
  refine y_iaddN (M := M_law) 1013 dL_law_1013 (by omega) (by omega) ?_
  refine y_sld (M := M_law) 1014 dL_law_1014 (by omega) (by omega) ?_
  refine y_aload_nO (M := M_law) 1015 dL_law_1015 rfl ?_
  refine y_iload_n (M := M_law) 1016 dL_law_1016 rfl ?_
  refine y_iconst (M := M_law) 1017 dL_law_1017 ?_
  refine y_iaddN (M := M_law) 1018 dL_law_1018 (by omega) (by omega) ?_
  refine y_sld (M := M_law) 1019 dL_law_1019 (by omega) (by omega) ?_
  refine y_aload_nO (M := M_law) 1020 dL_law_1020 rfl ?_
  refine y_iload_n (M := M_law) 1021 dL_law_1021 rfl ?_
  refine y_iconst (M := M_law) 1022 dL_law_1022 ?_
  refine y_iaddN (M := M_law) 1023 dL_law_1023 (by omega) (by omega) ?_
  refine y_sld (M := M_law) 1024 dL_law_1024 (by omega) (by omega) ?_
  refine y_aload_nO (M := M_law) 1025 dL_law_1025 rfl ?_
  refine y_iload_n (M := M_law) 1026 dL_law_1026 rfl ?_
  refine y_iconst (M := M_law) 1027 dL_law_1027 ?_
  refine y_iaddN (M := M_law) 1028 dL_law_1028 (by omega) (by omega) ?_
  refine y_sld (M := M_law) 1029 dL_law_1029 (by omega) (by omega) ?_
  refine y_vI (M := M_law) 1030 dL_law_1030 t_X12_dates ll_111 (m_rr_of rfl) (rest := []) (c_X12_dates h1 (sc xs (i + 1)) (sc xs (i + 2)) (sc xs (i + 3)) (sc xs (i + 4)) G1 N1) o_108 rfl rfl rfl (Nat.le_of_ble_eq_true rfl) ⟨rfl, rfl⟩ (fun x2 h2 q2 => ?_)
  obtain ⟨G2, S2⟩ := q2
  have N2 := NP.call N1 S2 (fun _ => rfl) (fun _ => rfl) (fun _ => rfl)
  have u2 : h2 108 8 = h1 108 8 := S2 108 8 rfl
  have w2 : h2 35 1 = h1 35 1 := S2 35 1 rfl
  have LX2 := LX1.cls S2 (by decide) (by decide) (by decide) (by decide) (by decide)
  have DR2 := DR1.cls S2 (by decide) ⟨rfl, rfl, rfl⟩ (by decide)
  refine y_pop (M := M_law) 1033 dL_law_1033 rfl ?_
  refine y_goto (M := M_law) 1034 dL_law_1034 1488 rfl ?_
  exact K h2 ⟨G2, N2, by omega, LX2, DR2⟩
set_option maxHeartbeats 4000000 in
set_option maxRecDepth 100000 in
theorem lk_23 {L : Nat} {xs : Nat → Int32} {i : Int} (hL : L ≤ 3072) (h0 : 0 ≤ i) (h1 : i + 5 < L) (K : ∀ h, LI h → m_Y (xL L xs) oF M_law 1488 [some (mO 41), some (mR 0), some (mR 108), some (mI i)] [] h Ql) (h : m_H) (I : LI h) : m_Y (xL L xs) oF M_law 1037 [some (mO 41), some (mR 0), some (mR 108), some (mI i)] [] h Ql := by
  obtain ⟨G0, N0, T0, LX0, DR0⟩ := I
  refine y_aload_n (M := M_law) 1037 dL_law_1037 rfl ?_
  refine y_aload_nO (M := M_law) 1038 dL_law_1038 rfl ?_
  refine y_iload_n (M := M_law) 1039 dL_law_1039 rfl ?_
  refine y_iconst (M := M_law) 1040 dL_law_1040 ?_
  refine y_iaddN (M := M_law) 1041 dL_law_1041 (by omega) (by omega) ?_
  refine y_sld (M := M_law) 1042 dL_law_1042 (by omega) (by omega) ?_
  refine y_aload_nO (M := M_law) 1043 dL_law_1043 rfl ?_
  refine y_iload_n (M := M_law) 1044 dL_law_1044 rfl ?_
  refine y_iconst (M := M_law) 1045 dL_law_1045 ?_
  refine y_iaddN (M := M_law) 1046 dL_law_1046 (by omega) (by omega) ?_
  refine y_sld (M := M_law) 1047 dL_law_1047 (by omega) (by omega) ?_
  refine y_vI (M := M_law) 1048 dL_law_1048 t_X11_joined ll_112 (m_rr_of rfl) (rest := []) (c_X11_joined h (sc xs (i + 1)) (sc xs (i + 2)) G0) o_0 rfl rfl rfl (Nat.le_of_ble_eq_true rfl) ⟨rfl, rfl⟩ (fun x1 h1 q1 => ?_)
  obtain ⟨G1, S1, p1_0, p1_1⟩ := q1
  have N1 := NP.call N0 S1 (fun _ => rfl) (fun _ => rfl) (fun _ => rfl)
  have u1 : h1 108 8 = h 108 8 := S1 108 8 rfl
  have w1 : h1 35 1 = h 35 1 := S1 35 1 rfl
  have LX1 := LX0.cls S1 (by decide) (by decide) (by decide) (by decide) (by decide)
  have DR1 := DR0.cls S1 (by decide) ⟨rfl, rfl, rfl⟩ (by decide)
  refine y_pop (M := M_law) 1051 dL_law_1051 rfl ?_
  refine y_aload_n (M := M_law) 1052 dL_law_1052 rfl ?_
  refine y_aload_nO (M := M_law) 1053 dL_law_1053 rfl ?_
  refine y_iload_n (M := M_law) 1054 dL_law_1054 rfl ?_
  refine y_iconst (M := M_law) 1055 dL_law_1055 ?_
  refine y_iaddN (M := M_law) 1056 dL_law_1056 (by omega) (by omega) ?_
  refine y_sld (M := M_law) 1057 dL_law_1057 (by omega) (by omega) ?_
  refine y_aload_nO (M := M_law) 1058 dL_law_1058 rfl ?_
  refine y_iload_n (M := M_law) 1059 dL_law_1059 rfl ?_
  refine y_iconst (M := M_law) 1060 dL_law_1060 ?_
  refine y_iaddN (M := M_law) 1061 dL_law_1061 (by omega) (by omega) ?_
  refine y_sld (M := M_law) 1062 dL_law_1062 (by omega) (by omega) ?_
  refine y_vI (M := M_law) 1063 dL_law_1063 t_X12_joined ll_115 (m_rr_of rfl) (rest := []) (c_X12_joined h1 (sc xs (i + 1)) (sc xs (i + 2)) G1 N1) o_108 rfl rfl rfl (Nat.le_of_ble_eq_true rfl) ⟨rfl, rfl⟩ (fun x2 h2 q2 => ?_)
  obtain ⟨G2, S2, p2_0, p2_1⟩ := q2
  have N2 := NP.call N1 S2 (fun _ => rfl) (fun _ => rfl) (fun _ => rfl)
  have u2 : h2 108 8 = h1 108 8 := S2 108 8 rfl
  have w2 : h2 35 1 = h1 35 1 := S2 35 1 rfl
  have LX2 := LX1.cls S2 (by decide) (by decide) (by decide) (by decide) (by decide)
  have DR2 := DR1.cls S2 (by decide) ⟨rfl, rfl, rfl⟩ (by decide)
  refine y_pop (M := M_law) 1066 dL_law_1066 rfl ?_
  refine y_goto (M := M_law) 1067 dL_law_1067 1488 rfl ?_
  exact K h2 ⟨G2, N2, by omega, LX2, DR2⟩
set_option maxHeartbeats 4000000 in
set_option maxRecDepth 100000 in
theorem lk_24 {L : Nat} {xs : Nat → Int32} {i : Int} (hL : L ≤ 3072) (h0 : 0 ≤ i) (h1 : i + 5 < L) (K : ∀ h, LI h → m_Y (xL L xs) oF M_law 1488 [some (mO 41), some (mR 0), some (mR 108), some (mI i)] [] h Ql) (h : m_H) (I : LI h) : m_Y (xL L xs) oF M_law 1070 [some (mO 41), some (mR 0), some (mR 108), some (mI i)] [] h Ql := by
  obtain ⟨G0, N0, T0, LX0, DR0⟩ := I
  refine y_aload_n (M := M_law) 1070 dL_law_1070 rfl ?_
  refine y_aload_nO (M := M_law) 1071 dL_law_1071 rfl ?_
  refine y_iload_n (M := M_law) 1072 dL_law_1072 rfl ?_
  refine y_iconst (M := M_law) 1073 dL_law_1073 ?_
  refine y_iaddN (M := M_law) 1074 dL_law_1074 (by omega) (by omega) ?_
  refine y_sld (M := M_law) 1075 dL_law_1075 (by omega) (by omega) ?_
  refine y_vI (M := M_law) 1076 dL_law_1076 t_X11_groups ll_116 (m_rr_of rfl) (rest := []) (c_X11_groups h (sc xs (i + 1)) G0) o_0 rfl rfl rfl (Nat.le_of_ble_eq_true rfl) ⟨rfl, rfl⟩ (fun x1 h1 q1 => ?_)
  obtain ⟨G1, S1⟩ := q1
  have N1 := NP.call N0 S1 (fun _ => rfl) (fun _ => rfl) (fun _ => rfl)
  have u1 : h1 108 8 = h 108 8 := S1 108 8 rfl
  have w1 : h1 35 1 = h 35 1 := S1 35 1 rfl
  have LX1 := LX0.cls S1 (by decide) (by decide) (by decide) (by decide) (by decide)
  have DR1 := DR0.cls S1 (by decide) ⟨rfl, rfl, rfl⟩ (by decide)
  refine y_pop (M := M_law) 1079 dL_law_1079 rfl ?_
  refine y_aload_n (M := M_law) 1080 dL_law_1080 rfl ?_
  refine y_aload_nO (M := M_law) 1081 dL_law_1081 rfl ?_
  refine y_iload_n (M := M_law) 1082 dL_law_1082 rfl ?_
  refine y_iconst (M := M_law) 1083 dL_law_1083 ?_
  refine y_iaddN (M := M_law) 1084 dL_law_1084 (by omega) (by omega) ?_
  refine y_sld (M := M_law) 1085 dL_law_1085 (by omega) (by omega) ?_
  refine y_vI (M := M_law) 1086 dL_law_1086 t_X12_groups ll_119 (m_rr_of rfl) (rest := []) (c_X12_groups h1 (sc xs (i + 1)) G1 N1) o_108 rfl rfl rfl (Nat.le_of_ble_eq_true rfl) ⟨rfl, rfl⟩ (fun x2 h2 q2 => ?_)
  obtain ⟨G2, S2⟩ := q2
  have N2 := NP.call N1 S2 (fun _ => rfl) (fun _ => rfl) (fun _ => rfl)
  have u2 : h2 108 8 = h1 108 8 := S2 108 8 rfl
  have w2 : h2 35 1 = h1 35 1 := S2 35 1 rfl
  have LX2 := LX1.cls S2 (by decide) (by decide) (by decide) (by decide) (by decide)
  have DR2 := DR1.cls S2 (by decide) ⟨rfl, rfl, rfl⟩ (by decide)
  refine y_pop (M := M_law) 1089 dL_law_1089 rfl ?_
  refine y_goto (M := M_law) 1090 dL_law_1090 1488 rfl ?_
  exact K h2 ⟨G2, N2, by omega, LX2, DR2⟩
set_option maxHeartbeats 4000000 in
set_option maxRecDepth 100000 in
theorem lk_25 {L : Nat} {xs : Nat → Int32} {i : Int} (hL : L ≤ 3072) (h0 : 0 ≤ i) (h1 : i + 5 < L) (K : ∀ h, LI h → m_Y (xL L xs) oF M_law 1488 [some (mO 41), some (mR 0), some (mR 108), some (mI i)] [] h Ql) (h : m_H) (I : LI h) : m_Y (xL L xs) oF M_law 1093 [some (mO 41), some (mR 0), some (mR 108), some (mI i)] [] h Ql := by
  obtain ⟨G0, N0, T0, LX0, DR0⟩ := I
  refine y_aload_n (M := M_law) 1093 dL_law_1093 rfl ?_
  refine y_vI (M := M_law) 1094 dL_law_1094 t_X11_core ll_120 (m_rr_of rfl) (rest := []) (c_X11_core h G0) o_0 rfl rfl rfl (Nat.le_of_ble_eq_true rfl) ⟨rfl, rfl⟩ (fun x1 h1 q1 => ?_)
  obtain ⟨G1, S1⟩ := q1
  have N1 := NP.call N0 S1 (fun _ => rfl) (fun _ => rfl) (fun _ => rfl)
  have u1 : h1 108 8 = h 108 8 := S1 108 8 rfl
  have w1 : h1 35 1 = h 35 1 := S1 35 1 rfl
  have LX1 := LX0.cls S1 (by decide) (by decide) (by decide) (by decide) (by decide)
  have DR1 := DR0.cls S1 (by decide) ⟨rfl, rfl, rfl⟩ (by decide)
  refine y_pop (M := M_law) 1097 dL_law_1097 rfl ?_
  refine y_aload_n (M := M_law) 1098 dL_law_1098 rfl ?_
  refine y_vI (M := M_law) 1099 dL_law_1099 t_X12_core ll_123 (m_rr_of rfl) (rest := []) (c_X12_core h1 G1 N1) o_108 rfl rfl rfl (Nat.le_of_ble_eq_true rfl) ⟨rfl, rfl⟩ (fun x2 h2 q2 => ?_)
  obtain ⟨G2, S2⟩ := q2
  have N2 := NP.call N1 S2 (fun _ => rfl) (fun _ => rfl) (fun _ => rfl)
  have u2 : h2 108 8 = h1 108 8 := S2 108 8 rfl
  have w2 : h2 35 1 = h1 35 1 := S2 35 1 rfl
  have LX2 := LX1.cls S2 (by decide) (by decide) (by decide) (by decide) (by decide)
  have DR2 := DR1.cls S2 (by decide) ⟨rfl, rfl, rfl⟩ (by decide)
  refine y_pop (M := M_law) 1102 dL_law_1102 rfl ?_
  refine y_goto (M := M_law) 1103 dL_law_1103 1488 rfl ?_
  exact K h2 ⟨G2, N2, by omega, LX2, DR2⟩
set_option maxHeartbeats 4000000 in
set_option maxRecDepth 100000 in
theorem lk_26 {L : Nat} {xs : Nat → Int32} {i : Int} (hL : L ≤ 3072) (h0 : 0 ≤ i) (h1 : i + 5 < L) (K : ∀ h, LI h → m_Y (xL L xs) oF M_law 1488 [some (mO 41), some (mR 0), some (mR 108), some (mI i)] [] h Ql) (h : m_H) (I : LI h) : m_Y (xL L xs) oF M_law 1106 [some (mO 41), some (mR 0), some (mR 108), some (mI i)] [] h Ql := by
  obtain ⟨G0, N0, T0, LX0, DR0⟩ := I
  refine y_aload_n (M := M_law) 1106 dL_law_1106 rfl ?_
  refine y_aload_nO (M := M_law) 1107 dL_law_1107 rfl ?_
  refine y_iload_n (M := M_law) 1108 dL_law_1108 rfl ?_
  refine y_iconst (M := M_law) 1109 dL_law_1109 ?_
  refine y_iaddN (M := M_law) 1110 dL_law_1110 (by omega) (by omega) ?_
  refine y_sld (M := M_law) 1111 dL_law_1111 (by omega) (by omega) ?_
  refine y_vI (M := M_law) 1112 dL_law_1112 t_X11_wrong ll_124 (m_rr_of rfl) (rest := []) (c_X11_wrong h (sc xs (i + 1)) G0) o_0 rfl rfl rfl (Nat.le_of_ble_eq_true rfl) ⟨rfl, rfl⟩ (fun x1 h1 q1 => ?_)
  obtain ⟨G1, S1⟩ := q1
  have N1 := NP.call N0 S1 (fun _ => rfl) (fun _ => rfl) (fun _ => rfl)
  have u1 : h1 108 8 = h 108 8 := S1 108 8 rfl
  have w1 : h1 35 1 = h 35 1 := S1 35 1 rfl
  have LX1 := LX0.cls S1 (by decide) (by decide) (by decide) (by decide) (by decide)
  have DR1 := DR0.cls S1 (by decide) ⟨rfl, rfl, rfl⟩ (by decide)
  refine y_pop (M := M_law) 1115 dL_law_1115 rfl ?_
  refine y_aload_n (M := M_law) 1116 dL_law_1116 rfl ?_
  refine y_aload_nO (M := M_law) 1117 dL_law_1117 rfl ?_
  refine y_iload_n (M := M_law) 1118 dL_law_1118 rfl ?_
  refine y_iconst (M := M_law) 1119 dL_law_1119 ?_
  refine y_iaddN (M := M_law) 1120 dL_law_1120 (by omega) (by omega) ?_
  refine y_sld (M := M_law) 1121 dL_law_1121 (by omega) (by omega) ?_
  refine y_vI (M := M_law) 1122 dL_law_1122 t_X12_wrong ll_127 (m_rr_of rfl) (rest := []) (c_X12_wrong h1 (sc xs (i + 1)) G1 N1) o_108 rfl rfl rfl (Nat.le_of_ble_eq_true rfl) ⟨rfl, rfl⟩ (fun x2 h2 q2 => ?_)
  obtain ⟨G2, S2⟩ := q2
  have N2 := NP.call N1 S2 (fun _ => rfl) (fun _ => rfl) (fun _ => rfl)
  have u2 : h2 108 8 = h1 108 8 := S2 108 8 rfl
  have w2 : h2 35 1 = h1 35 1 := S2 35 1 rfl
  have LX2 := LX1.cls S2 (by decide) (by decide) (by decide) (by decide) (by decide)
  have DR2 := DR1.cls S2 (by decide) ⟨rfl, rfl, rfl⟩ (by decide)
  refine y_pop (M := M_law) 1125 dL_law_1125 rfl ?_
  refine y_goto (M := M_law) 1126 dL_law_1126 1488 rfl ?_
  exact K h2 ⟨G2, N2, by omega, LX2, DR2⟩
set_option maxHeartbeats 4000000 in
set_option maxRecDepth 100000 in
theorem lk_27 {L : Nat} {xs : Nat → Int32} {i : Int} (hL : L ≤ 3072) (h0 : 0 ≤ i) (h1 : i + 5 < L) (K : ∀ h, LI h → m_Y (xL L xs) oF M_law 1488 [some (mO 41), some (mR 0), some (mR 108), some (mI i)] [] h Ql) (h : m_H) (I : LI h) : m_Y (xL L xs) oF M_law 1129 [some (mO 41), some (mR 0), some (mR 108), some (mI i)] [] h Ql := by
  obtain ⟨G0, N0, T0, LX0, DR0⟩ := I
  refine y_aload_n (M := M_law) 1129 dL_law_1129 rfl ?_
  refine y_aload_nO (M := M_law) 1130 dL_law_1130 rfl ?_
  refine y_iload_n (M := M_law) 1131 dL_law_1131 rfl ?_
  refine y_iconst (M := M_law) 1132 dL_law_1132 ?_
  refine y_iaddN (M := M_law) 1133 dL_law_1133 (by omega) (by omega) ?_
  refine y_sld (M := M_law) 1134 dL_law_1134 (by omega) (by omega) ?_
  refine y_vI (M := M_law) 1135 dL_law_1135 t_X11_whose ll_128 (m_rr_of rfl) (rest := []) (c_X11_whose h (sc xs (i + 1)) G0) o_0 rfl rfl rfl (Nat.le_of_ble_eq_true rfl) ⟨rfl, rfl⟩ (fun x1 h1 q1 => ?_)
  obtain ⟨G1, S1⟩ := q1
  have N1 := NP.call N0 S1 (fun _ => rfl) (fun _ => rfl) (fun _ => rfl)
  have u1 : h1 108 8 = h 108 8 := S1 108 8 rfl
  have w1 : h1 35 1 = h 35 1 := S1 35 1 rfl
  have LX1 := LX0.cls S1 (by decide) (by decide) (by decide) (by decide) (by decide)
  have DR1 := DR0.cls S1 (by decide) ⟨rfl, rfl, rfl⟩ (by decide)
  refine y_pop (M := M_law) 1138 dL_law_1138 rfl ?_
  refine y_aload_n (M := M_law) 1139 dL_law_1139 rfl ?_
  refine y_aload_nO (M := M_law) 1140 dL_law_1140 rfl ?_
  refine y_iload_n (M := M_law) 1141 dL_law_1141 rfl ?_
  refine y_iconst (M := M_law) 1142 dL_law_1142 ?_
  refine y_iaddN (M := M_law) 1143 dL_law_1143 (by omega) (by omega) ?_
  refine y_sld (M := M_law) 1144 dL_law_1144 (by omega) (by omega) ?_
  refine y_vI (M := M_law) 1145 dL_law_1145 t_X12_whose ll_131 (m_rr_of rfl) (rest := []) (c_X12_whose h1 (sc xs (i + 1)) G1 N1) o_108 rfl rfl rfl (Nat.le_of_ble_eq_true rfl) ⟨rfl, rfl⟩ (fun x2 h2 q2 => ?_)
  obtain ⟨G2, S2⟩ := q2
  have N2 := NP.call N1 S2 (fun _ => rfl) (fun _ => rfl) (fun _ => rfl)
  have u2 : h2 108 8 = h1 108 8 := S2 108 8 rfl
  have w2 : h2 35 1 = h1 35 1 := S2 35 1 rfl
  have LX2 := LX1.cls S2 (by decide) (by decide) (by decide) (by decide) (by decide)
  have DR2 := DR1.cls S2 (by decide) ⟨rfl, rfl, rfl⟩ (by decide)
  refine y_pop (M := M_law) 1148 dL_law_1148 rfl ?_
  refine y_goto (M := M_law) 1149 dL_law_1149 1488 rfl ?_
  exact K h2 ⟨G2, N2, by omega, LX2, DR2⟩
set_option maxHeartbeats 4000000 in
set_option maxRecDepth 100000 in
theorem lk_28 {L : Nat} {xs : Nat → Int32} {i : Int} (hL : L ≤ 3072) (h0 : 0 ≤ i) (h1 : i + 5 < L) (K : ∀ h, LI h → m_Y (xL L xs) oF M_law 1488 [some (mO 41), some (mR 0), some (mR 108), some (mI i)] [] h Ql) (h : m_H) (I : LI h) : m_Y (xL L xs) oF M_law 1152 [some (mO 41), some (mR 0), some (mR 108), some (mI i)] [] h Ql := by
  obtain ⟨G0, N0, T0, LX0, DR0⟩ := I
  refine y_aload_n (M := M_law) 1152 dL_law_1152 rfl ?_
  refine y_aload_nO (M := M_law) 1153 dL_law_1153 rfl ?_
  refine y_iload_n (M := M_law) 1154 dL_law_1154 rfl ?_
  refine y_iconst (M := M_law) 1155 dL_law_1155 ?_
  refine y_iaddN (M := M_law) 1156 dL_law_1156 (by omega) (by omega) ?_
  refine y_sld (M := M_law) 1157 dL_law_1157 (by omega) (by omega) ?_
  refine y_aload_nO (M := M_law) 1158 dL_law_1158 rfl ?_
  refine y_iload_n (M := M_law) 1159 dL_law_1159 rfl ?_
  refine y_iconst (M := M_law) 1160 dL_law_1160 ?_
  refine y_iaddN (M := M_law) 1161 dL_law_1161 (by omega) (by omega) ?_
  refine y_sld (M := M_law) 1162 dL_law_1162 (by omega) (by omega) ?_
  refine y_vI (M := M_law) 1163 dL_law_1163 t_X11_could ll_132 (m_rr_of rfl) (rest := []) (c_X11_could h (sc xs (i + 1)) (sc xs (i + 2)) G0) o_0 rfl rfl rfl (Nat.le_of_ble_eq_true rfl) ⟨rfl, rfl⟩ (fun x1 h1 q1 => ?_)
  obtain ⟨G1, S1⟩ := q1
  have N1 := NP.call N0 S1 (fun _ => rfl) (fun _ => rfl) (fun _ => rfl)
  have u1 : h1 108 8 = h 108 8 := S1 108 8 rfl
  have w1 : h1 35 1 = h 35 1 := S1 35 1 rfl
  have LX1 := LX0.cls S1 (by decide) (by decide) (by decide) (by decide) (by decide)
  have DR1 := DR0.cls S1 (by decide) ⟨rfl, rfl, rfl⟩ (by decide)
  refine y_pop (M := M_law) 1166 dL_law_1166 rfl ?_
  refine y_aload_n (M := M_law) 1167 dL_law_1167 rfl ?_
  refine y_aload_nO (M := M_law) 1168 dL_law_1168 rfl ?_
  refine y_iload_n (M := M_law) 1169 dL_law_1169 rfl ?_
  refine y_iconst (M := M_law) 1170 dL_law_1170 ?_
  refine y_iaddN (M := M_law) 1171 dL_law_1171 (by omega) (by omega) ?_
  refine y_sld (M := M_law) 1172 dL_law_1172 (by omega) (by omega) ?_
  refine y_aload_nO (M := M_law) 1173 dL_law_1173 rfl ?_
  refine y_iload_n (M := M_law) 1174 dL_law_1174 rfl ?_
  refine y_iconst (M := M_law) 1175 dL_law_1175 ?_
  refine y_iaddN (M := M_law) 1176 dL_law_1176 (by omega) (by omega) ?_
  refine y_sld (M := M_law) 1177 dL_law_1177 (by omega) (by omega) ?_
  refine y_vI (M := M_law) 1178 dL_law_1178 t_X12_could ll_135 (m_rr_of rfl) (rest := []) (c_X12_could h1 (sc xs (i + 1)) (sc xs (i + 2)) G1 N1) o_108 rfl rfl rfl (Nat.le_of_ble_eq_true rfl) ⟨rfl, rfl⟩ (fun x2 h2 q2 => ?_)
  obtain ⟨G2, S2⟩ := q2
  have N2 := NP.call N1 S2 (fun _ => rfl) (fun _ => rfl) (fun _ => rfl)
  have u2 : h2 108 8 = h1 108 8 := S2 108 8 rfl
  have w2 : h2 35 1 = h1 35 1 := S2 35 1 rfl
  have LX2 := LX1.cls S2 (by decide) (by decide) (by decide) (by decide) (by decide)
  have DR2 := DR1.cls S2 (by decide) ⟨rfl, rfl, rfl⟩ (by decide)
  refine y_pop (M := M_law) 1181 dL_law_1181 rfl ?_
  refine y_goto (M := M_law) 1182 dL_law_1182 1488 rfl ?_
  exact K h2 ⟨G2, N2, by omega, LX2, DR2⟩
set_option maxHeartbeats 4000000 in
set_option maxRecDepth 100000 in
theorem lk_29 {L : Nat} {xs : Nat → Int32} {i : Int} (hL : L ≤ 3072) (h0 : 0 ≤ i) (h1 : i + 5 < L) (K : ∀ h, LI h → m_Y (xL L xs) oF M_law 1488 [some (mO 41), some (mR 0), some (mR 108), some (mI i)] [] h Ql) (h : m_H) (I : LI h) : m_Y (xL L xs) oF M_law 1185 [some (mO 41), some (mR 0), some (mR 108), some (mI i)] [] h Ql := by
  obtain ⟨G0, N0, T0, LX0, DR0⟩ := I
  refine y_aload_n (M := M_law) 1185 dL_law_1185 rfl ?_
  refine y_aload_nO (M := M_law) 1186 dL_law_1186 rfl ?_
  refine y_iload_n (M := M_law) 1187 dL_law_1187 rfl ?_
  refine y_iconst (M := M_law) 1188 dL_law_1188 ?_
  refine y_iaddN (M := M_law) 1189 dL_law_1189 (by omega) (by omega) ?_
  refine y_sld (M := M_law) 1190 dL_law_1190 (by omega) (by omega) ?_
  refine y_aload_nO (M := M_law) 1191 dL_law_1191 rfl ?_
  refine y_iload_n (M := M_law) 1192 dL_law_1192 rfl ?_
  refine y_iconst (M := M_law) 1193 dL_law_1193 ?_
  refine y_iaddN (M := M_law) 1194 dL_law_1194 (by omega) (by omega) ?_
  refine y_sld (M := M_law) 1195 dL_law_1195 (by omega) (by omega) ?_
  refine y_vI (M := M_law) 1196 dL_law_1196 t_X11_when ll_136 (m_rr_of rfl) (rest := []) (c_X11_when h (sc xs (i + 1)) (sc xs (i + 2)) G0) o_0 rfl rfl rfl (Nat.le_of_ble_eq_true rfl) ⟨rfl, rfl⟩ (fun x1 h1 q1 => ?_)
  obtain ⟨G1, S1, p1_0, p1_1⟩ := q1
  have N1 := NP.call N0 S1 (fun _ => rfl) (fun _ => rfl) (fun _ => rfl)
  have u1 : h1 108 8 = h 108 8 := S1 108 8 rfl
  have w1 : h1 35 1 = h 35 1 := S1 35 1 rfl
  have LX1 := LX0.cls S1 (by decide) (by decide) (by decide) (by decide) (by decide)
  have DR1 := DR0.cls S1 (by decide) ⟨rfl, rfl, rfl⟩ (by decide)
  refine y_pop (M := M_law) 1199 dL_law_1199 rfl ?_
  refine y_aload_n (M := M_law) 1200 dL_law_1200 rfl ?_
  refine y_aload_nO (M := M_law) 1201 dL_law_1201 rfl ?_
  refine y_iload_n (M := M_law) 1202 dL_law_1202 rfl ?_
  refine y_iconst (M := M_law) 1203 dL_law_1203 ?_
  refine y_iaddN (M := M_law) 1204 dL_law_1204 (by omega) (by omega) ?_
  refine y_sld (M := M_law) 1205 dL_law_1205 (by omega) (by omega) ?_
  refine y_aload_nO (M := M_law) 1206 dL_law_1206 rfl ?_
  refine y_iload_n (M := M_law) 1207 dL_law_1207 rfl ?_
  refine y_iconst (M := M_law) 1208 dL_law_1208 ?_
  refine y_iaddN (M := M_law) 1209 dL_law_1209 (by omega) (by omega) ?_
  refine y_sld (M := M_law) 1210 dL_law_1210 (by omega) (by omega) ?_
  refine y_vI (M := M_law) 1211 dL_law_1211 t_X12_when ll_139 (m_rr_of rfl) (rest := []) (c_X12_when h1 (sc xs (i + 1)) (sc xs (i + 2)) G1 N1) o_108 rfl rfl rfl (Nat.le_of_ble_eq_true rfl) ⟨rfl, rfl⟩ (fun x2 h2 q2 => ?_)
  obtain ⟨G2, S2⟩ := q2
  have N2 := NP.call N1 S2 (fun _ => rfl) (fun _ => rfl) (fun _ => rfl)
  have u2 : h2 108 8 = h1 108 8 := S2 108 8 rfl
  have w2 : h2 35 1 = h1 35 1 := S2 35 1 rfl
  have LX2 := LX1.cls S2 (by decide) (by decide) (by decide) (by decide) (by decide)
  have DR2 := DR1.cls S2 (by decide) ⟨rfl, rfl, rfl⟩ (by decide)
  refine y_pop (M := M_law) 1214 dL_law_1214 rfl ?_
  refine y_goto (M := M_law) 1215 dL_law_1215 1488 rfl ?_
  exact K h2 ⟨G2, N2, by omega, LX2, DR2⟩
set_option maxHeartbeats 4000000 in
set_option maxRecDepth 100000 in
theorem lk_30 {L : Nat} {xs : Nat → Int32} {i : Int} (hL : L ≤ 3072) (h0 : 0 ≤ i) (h1 : i + 5 < L) (K : ∀ h, LI h → m_Y (xL L xs) oF M_law 1488 [some (mO 41), some (mR 0), some (mR 108), some (mI i)] [] h Ql) (h : m_H) (I : LI h) : m_Y (xL L xs) oF M_law 1218 [some (mO 41), some (mR 0), some (mR 108), some (mI i)] [] h Ql := by
  obtain ⟨G0, N0, T0, LX0, DR0⟩ := I
  refine y_aload_n (M := M_law) 1218 dL_law_1218 rfl ?_
  refine y_aload_nO (M := M_law) 1219 dL_law_1219 rfl ?_
  refine y_iload_n (M := M_law) 1220 dL_law_1220 rfl ?_
  refine y_iconst (M := M_law) 1221 dL_law_1221 ?_
  refine y_iaddN (M := M_law) 1222 dL_law_1222 (by omega) (by omega) ?_
  refine y_sld (M := M_law) 1223 dL_law_1223 (by omega) (by omega) ?_
  refine y_aload_nO (M := M_law) 1224 dL_law_1224 rfl ?_
  refine y_iload_n (M := M_law) 1225 dL_law_1225 rfl ?_
  refine y_iconst (M := M_law) 1226 dL_law_1226 ?_
  refine y_iaddN (M := M_law) 1227 dL_law_1227 (by omega) (by omega) ?_
  refine y_sld (M := M_law) 1228 dL_law_1228 (by omega) (by omega) ?_
  refine y_vI (M := M_law) 1229 dL_law_1229 t_X11_tell ll_140 (m_rr_of rfl) (rest := []) (c_X11_tell3 h (sc xs (i + 1)) (sc xs (i + 2)) G0) o_0 rfl rfl rfl (Nat.le_of_ble_eq_true rfl) ⟨rfl, rfl⟩ (fun x1 h1 q1 => ?_)
  obtain ⟨G1, S1, p1_0⟩ := q1
  have N1 := NP.call N0 S1 (fun _ => rfl) (fun _ => rfl) (fun _ => rfl)
  have u1 : h1 108 8 = h 108 8 := S1 108 8 rfl
  have w1 : h1 35 1 = h 35 1 := S1 35 1 rfl
  have DR1 := DR0.cls S1 (by decide) ⟨rfl, rfl, rfl⟩ (by decide)
  refine y_pop (M := M_law) 1232 dL_law_1232 rfl ?_
  refine y_aload_n (M := M_law) 1233 dL_law_1233 rfl ?_
  refine y_aload_nO (M := M_law) 1234 dL_law_1234 rfl ?_
  refine y_iload_n (M := M_law) 1235 dL_law_1235 rfl ?_
  refine y_iconst (M := M_law) 1236 dL_law_1236 ?_
  refine y_iaddN (M := M_law) 1237 dL_law_1237 (by omega) (by omega) ?_
  refine y_sld (M := M_law) 1238 dL_law_1238 (by omega) (by omega) ?_
  refine y_aload_nO (M := M_law) 1239 dL_law_1239 rfl ?_
  refine y_iload_n (M := M_law) 1240 dL_law_1240 rfl ?_
  refine y_iconst (M := M_law) 1241 dL_law_1241 ?_
  refine y_iaddN (M := M_law) 1242 dL_law_1242 (by omega) (by omega) ?_
  refine y_sld (M := M_law) 1243 dL_law_1243 (by omega) (by omega) ?_
  refine y_vI (M := M_law) 1244 dL_law_1244 t_X12_tell ll_143 (m_rr_of rfl) (rest := []) (c_X12_tell3 h1 (sc xs (i + 1)) (sc xs (i + 2)) G1) o_108 rfl rfl rfl (Nat.le_of_ble_eq_true rfl) ⟨rfl, rfl⟩ (fun x2 h2 q2 => ?_)
  obtain ⟨G2, S2, p2_0, p2_1⟩ := q2
  have N2 := p2_1 N1
  have u2 : h2 108 8 = h1 108 8 := S2 108 8 rfl
  have w2 : h2 35 1 = h1 35 1 := S2 35 1 rfl
  obtain ⟨L2_, exy⟩ := both LX0.2.1 p1_0 p2_0 S1 S2 (fun _ => rfl) (by decide)
  have LX2 := LX0.mut S1 S2 L2_ (by decide) (by decide) (by decide) (by decide) (by decide) (by decide)
  have DR2 := DR1.cls S2 (by decide) ⟨rfl, rfl, rfl⟩ (by decide)
  refine y_pop (M := M_law) 1247 dL_law_1247 rfl ?_
  refine y_goto (M := M_law) 1248 dL_law_1248 1488 rfl ?_
  exact K h2 ⟨G2, N2, by omega, LX2, DR2⟩
set_option maxHeartbeats 4000000 in
set_option maxRecDepth 100000 in
theorem lk_31 {L : Nat} {xs : Nat → Int32} {i : Int} (hL : L ≤ 3072) (h0 : 0 ≤ i) (h1 : i + 5 < L) (K : ∀ h, LI h → m_Y (xL L xs) oF M_law 1488 [some (mO 41), some (mR 0), some (mR 108), some (mI i)] [] h Ql) (h : m_H) (I : LI h) : m_Y (xL L xs) oF M_law 1251 [some (mO 41), some (mR 0), some (mR 108), some (mI i)] [] h Ql := by
  obtain ⟨G0, N0, T0, LX0, DR0⟩ := I
  refine y_aload_n (M := M_law) 1251 dL_law_1251 rfl ?_
  refine y_aload_nO (M := M_law) 1252 dL_law_1252 rfl ?_
  refine y_iload_n (M := M_law) 1253 dL_law_1253 rfl ?_
  refine y_iconst (M := M_law) 1254 dL_law_1254 ?_
  refine y_iaddN (M := M_law) 1255 dL_law_1255 (by omega) (by omega) ?_
  refine y_sld (M := M_law) 1256 dL_law_1256 (by omega) (by omega) ?_
  refine y_aload_nO (M := M_law) 1257 dL_law_1257 rfl ?_
  refine y_iload_n (M := M_law) 1258 dL_law_1258 rfl ?_
  refine y_iconst (M := M_law) 1259 dL_law_1259 ?_
  refine y_iaddN (M := M_law) 1260 dL_law_1260 (by omega) (by omega) ?_
  refine y_sld (M := M_law) 1261 dL_law_1261 (by omega) (by omega) ?_
  refine y_aload_nO (M := M_law) 1262 dL_law_1262 rfl ?_
  refine y_iload_n (M := M_law) 1263 dL_law_1263 rfl ?_
  refine y_iconst (M := M_law) 1264 dL_law_1264 ?_
  refine y_iaddN (M := M_law) 1265 dL_law_1265 (by omega) (by omega) ?_
  refine y_sld (M := M_law) 1266 dL_law_1266 (by omega) (by omega) ?_
  refine y_vI (M := M_law) 1267 dL_law_1267 t_X11_says ll_144 (m_rr_of rfl) (rest := []) (c_X11_says h (sc xs (i + 1)) (sc xs (i + 2)) (sc xs (i + 3)) G0) o_0 rfl rfl rfl (Nat.le_of_ble_eq_true rfl) ⟨rfl, rfl⟩ (fun x1 h1 q1 => ?_)
  obtain ⟨G1, S1⟩ := q1
  have N1 := NP.call N0 S1 (fun _ => rfl) (fun _ => rfl) (fun _ => rfl)
  have u1 : h1 108 8 = h 108 8 := S1 108 8 rfl
  have w1 : h1 35 1 = h 35 1 := S1 35 1 rfl
  have LX1 := LX0.cls S1 (by decide) (by decide) (by decide) (by decide) (by decide)
  have DR1 := DR0.cls S1 (by decide) ⟨rfl, rfl, rfl⟩ (by decide)
  refine y_pop (M := M_law) 1270 dL_law_1270 rfl ?_
  refine y_aload_n (M := M_law) 1271 dL_law_1271 rfl ?_
  refine y_aload_nO (M := M_law) 1272 dL_law_1272 rfl ?_
  refine y_iload_n (M := M_law) 1273 dL_law_1273 rfl ?_
  refine y_iconst (M := M_law) 1274 dL_law_1274 ?_
  refine y_iaddN (M := M_law) 1275 dL_law_1275 (by omega) (by omega) ?_
  refine y_sld (M := M_law) 1276 dL_law_1276 (by omega) (by omega) ?_
  refine y_aload_nO (M := M_law) 1277 dL_law_1277 rfl ?_
  refine y_iload_n (M := M_law) 1278 dL_law_1278 rfl ?_
  refine y_iconst (M := M_law) 1279 dL_law_1279 ?_
  refine y_iaddN (M := M_law) 1280 dL_law_1280 (by omega) (by omega) ?_
  refine y_sld (M := M_law) 1281 dL_law_1281 (by omega) (by omega) ?_
  refine y_aload_nO (M := M_law) 1282 dL_law_1282 rfl ?_
  refine y_iload_n (M := M_law) 1283 dL_law_1283 rfl ?_
  refine y_iconst (M := M_law) 1284 dL_law_1284 ?_
  refine y_iaddN (M := M_law) 1285 dL_law_1285 (by omega) (by omega) ?_
  refine y_sld (M := M_law) 1286 dL_law_1286 (by omega) (by omega) ?_
  refine y_vI (M := M_law) 1287 dL_law_1287 t_X12_says ll_147 (m_rr_of rfl) (rest := []) (c_X12_says h1 (sc xs (i + 1)) (sc xs (i + 2)) (sc xs (i + 3)) G1) o_108 rfl rfl rfl (Nat.le_of_ble_eq_true rfl) ⟨rfl, rfl⟩ (fun x2 h2 q2 => ?_)
  obtain ⟨G2, S2, p2_0, p2_1⟩ := q2
  have N2 := NP.call N1 S2 (fun _ => rfl) (fun _ => rfl) (fun _ => rfl)
  have u2 : h2 108 8 = h1 108 8 := S2 108 8 rfl
  have w2 : h2 35 1 = h1 35 1 := S2 35 1 rfl
  have LX2 := LX1.cls S2 (by decide) (by decide) (by decide) (by decide) (by decide)
  have DR2 := DR1.cls S2 (by decide) ⟨rfl, rfl, rfl⟩ (by decide)
  refine y_pop (M := M_law) 1290 dL_law_1290 rfl ?_
  refine y_goto (M := M_law) 1291 dL_law_1291 1488 rfl ?_
  exact K h2 ⟨G2, N2, by omega, LX2, DR2⟩
set_option maxHeartbeats 4000000 in
set_option maxRecDepth 100000 in
theorem lk_32 {L : Nat} {xs : Nat → Int32} {i : Int} (hL : L ≤ 3072) (h0 : 0 ≤ i) (h1 : i + 5 < L) (K : ∀ h, LI h → m_Y (xL L xs) oF M_law 1488 [some (mO 41), some (mR 0), some (mR 108), some (mI i)] [] h Ql) (h : m_H) (I : LI h) : m_Y (xL L xs) oF M_law 1294 [some (mO 41), some (mR 0), some (mR 108), some (mI i)] [] h Ql := by
  obtain ⟨G0, N0, T0, LX0, DR0⟩ := I
  refine y_aload_n (M := M_law) 1294 dL_law_1294 rfl ?_
  refine y_aload_nO (M := M_law) 1295 dL_law_1295 rfl ?_
  refine y_iload_n (M := M_law) 1296 dL_law_1296 rfl ?_
  refine y_iconst (M := M_law) 1297 dL_law_1297 ?_
  refine y_iaddN (M := M_law) 1298 dL_law_1298 (by omega) (by omega) ?_
  refine y_sld (M := M_law) 1299 dL_law_1299 (by omega) (by omega) ?_
  refine y_vI (M := M_law) 1300 dL_law_1300 t_X11_judge ll_148 (m_rr_of rfl) (rest := []) (c_X11_judge3 h (sc xs (i + 1)) G0) o_0 rfl rfl rfl (Nat.le_of_ble_eq_true rfl) ⟨rfl, rfl⟩ (fun x1 h1 q1 => ?_)
  obtain ⟨G1, S1, p1_0⟩ := q1
  have N1 := NP.call N0 S1 (fun _ => rfl) (fun _ => rfl) (fun _ => rfl)
  have u1 : h1 108 8 = h 108 8 := S1 108 8 rfl
  have w1 : h1 35 1 = h 35 1 := S1 35 1 rfl
  have LX1 := LX0.cls S1 (by decide) (by decide) (by decide) (by decide) (by decide)
  have DR1 := DR0.cls S1 (by decide) ⟨rfl, rfl, rfl⟩ (by decide)
  refine y_pop (M := M_law) 1303 dL_law_1303 rfl ?_
  refine y_aload_n (M := M_law) 1304 dL_law_1304 rfl ?_
  refine y_aload_nO (M := M_law) 1305 dL_law_1305 rfl ?_
  refine y_iload_n (M := M_law) 1306 dL_law_1306 rfl ?_
  refine y_iconst (M := M_law) 1307 dL_law_1307 ?_
  refine y_iaddN (M := M_law) 1308 dL_law_1308 (by omega) (by omega) ?_
  refine y_sld (M := M_law) 1309 dL_law_1309 (by omega) (by omega) ?_
  refine y_vI (M := M_law) 1310 dL_law_1310 t_X12_judge ll_151 (m_rr_of rfl) (rest := []) (c_X12_judge3 h1 (sc xs (i + 1)) G1) o_108 rfl rfl rfl (Nat.le_of_ble_eq_true rfl) ⟨rfl, rfl⟩ (fun x2 h2 q2 => ?_)
  obtain ⟨G2, S2, p2_0⟩ := q2
  have N2 := NP.call N1 S2 (fun _ => rfl) (fun _ => rfl) (fun _ => rfl)
  have u2 : h2 108 8 = h1 108 8 := S2 108 8 rfl
  have w2 : h2 35 1 = h1 35 1 := S2 35 1 rfl
  have LX2 := LX1.cls S2 (by decide) (by decide) (by decide) (by decide) (by decide)
  have exy := LX0.judge G0 S1 p1_0 p2_0 (by decide)
  have DR2 := DR1.cls S2 (by decide) ⟨rfl, rfl, rfl⟩ (by decide)
  refine y_pop (M := M_law) 1313 dL_law_1313 rfl ?_
  refine y_goto (M := M_law) 1314 dL_law_1314 1488 rfl ?_
  exact K h2 ⟨G2, N2, by omega, LX2, DR2⟩
set_option maxHeartbeats 4000000 in
set_option maxRecDepth 100000 in
theorem lk_33 {L : Nat} {xs : Nat → Int32} {i : Int} (hL : L ≤ 3072) (h0 : 0 ≤ i) (h1 : i + 5 < L) (K : ∀ h, LI h → m_Y (xL L xs) oF M_law 1488 [some (mO 41), some (mR 0), some (mR 108), some (mI i)] [] h Ql) (h : m_H) (I : LI h) : m_Y (xL L xs) oF M_law 1317 [some (mO 41), some (mR 0), some (mR 108), some (mI i)] [] h Ql := by
  obtain ⟨G0, N0, T0, LX0, DR0⟩ := I
  refine y_aload_n (M := M_law) 1317 dL_law_1317 rfl ?_
  refine y_aload_nO (M := M_law) 1318 dL_law_1318 rfl ?_
  refine y_iload_n (M := M_law) 1319 dL_law_1319 rfl ?_
  refine y_iconst (M := M_law) 1320 dL_law_1320 ?_
  refine y_iaddN (M := M_law) 1321 dL_law_1321 (by omega) (by omega) ?_
  refine y_sld (M := M_law) 1322 dL_law_1322 (by omega) (by omega) ?_
  refine y_aload_nO (M := M_law) 1323 dL_law_1323 rfl ?_
  refine y_iload_n (M := M_law) 1324 dL_law_1324 rfl ?_
  refine y_iconst (M := M_law) 1325 dL_law_1325 ?_
  refine y_iaddN (M := M_law) 1326 dL_law_1326 (by omega) (by omega) ?_
  refine y_sld (M := M_law) 1327 dL_law_1327 (by omega) (by omega) ?_
  refine y_aload_nO (M := M_law) 1328 dL_law_1328 rfl ?_
  refine y_iload_n (M := M_law) 1329 dL_law_1329 rfl ?_
  refine y_iconst (M := M_law) 1330 dL_law_1330 ?_
  refine y_iaddN (M := M_law) 1331 dL_law_1331 (by omega) (by omega) ?_
  refine y_sld (M := M_law) 1332 dL_law_1332 (by omega) (by omega) ?_
  refine y_vI (M := M_law) 1333 dL_law_1333 t_X11_year ll_152 (m_rr_of rfl) (rest := []) (c_X11_year2 h (sc xs (i + 1)) (sc xs (i + 2)) (sc xs (i + 3)) G0) o_0 rfl rfl rfl (Nat.le_of_ble_eq_true rfl) ⟨rfl, rfl⟩ (fun x1 h1 q1 => ?_)
  obtain ⟨G1, S1, p1_0⟩ := q1
  have N1 := NP.call N0 S1 (fun _ => rfl) (fun _ => rfl) (fun _ => rfl)
  have u1 : h1 108 8 = h 108 8 := S1 108 8 rfl
  have w1 : h1 35 1 = h 35 1 := S1 35 1 rfl
  have LX1 := LX0.cls S1 (by decide) (by decide) (by decide) (by decide) (by decide)
  refine y_pop (M := M_law) 1336 dL_law_1336 rfl ?_
  refine y_aload_n (M := M_law) 1337 dL_law_1337 rfl ?_
  refine y_aload_nO (M := M_law) 1338 dL_law_1338 rfl ?_
  refine y_iload_n (M := M_law) 1339 dL_law_1339 rfl ?_
  refine y_iconst (M := M_law) 1340 dL_law_1340 ?_
  refine y_iaddN (M := M_law) 1341 dL_law_1341 (by omega) (by omega) ?_
  refine y_sld (M := M_law) 1342 dL_law_1342 (by omega) (by omega) ?_
  refine y_aload_nO (M := M_law) 1343 dL_law_1343 rfl ?_
  refine y_iload_n (M := M_law) 1344 dL_law_1344 rfl ?_
  refine y_iconst (M := M_law) 1345 dL_law_1345 ?_
  refine y_iaddN (M := M_law) 1346 dL_law_1346 (by omega) (by omega) ?_
  refine y_sld (M := M_law) 1347 dL_law_1347 (by omega) (by omega) ?_
  refine y_aload_nO (M := M_law) 1348 dL_law_1348 rfl ?_
  refine y_iload_n (M := M_law) 1349 dL_law_1349 rfl ?_
  refine y_iconst (M := M_law) 1350 dL_law_1350 ?_
  refine y_iaddN (M := M_law) 1351 dL_law_1351 (by omega) (by omega) ?_
  refine y_sld (M := M_law) 1352 dL_law_1352 (by omega) (by omega) ?_
  refine y_vI (M := M_law) 1353 dL_law_1353 t_X12_year ll_155 (m_rr_of rfl) (rest := []) (c_X12_year2 h1 (sc xs (i + 1)) (sc xs (i + 2)) (sc xs (i + 3)) G1) o_108 rfl rfl rfl (Nat.le_of_ble_eq_true rfl) ⟨rfl, rfl⟩ (fun x2 h2 q2 => ?_)
  obtain ⟨G2, S2, p2_0⟩ := q2
  have N2 := NP.call N1 S2 (fun _ => rfl) (fun _ => rfl) (fun _ => rfl)
  have u2 : h2 108 8 = h1 108 8 := S2 108 8 rfl
  have w2 : h2 35 1 = h1 35 1 := S2 35 1 rfl
  have LX2 := LX1.cls S2 (by decide) (by decide) (by decide) (by decide) (by decide)
  obtain ⟨DR2, exy⟩ := DR0.year (show LW 1 h (h 110) from LX0.2.1.2.2.2.1) S1 S2 p1_0 p2_0 (by decide) (by decide)
  refine y_pop (M := M_law) 1356 dL_law_1356 rfl ?_
  refine y_goto (M := M_law) 1357 dL_law_1357 1488 rfl ?_
  exact K h2 ⟨G2, N2, by omega, LX2, DR2⟩
set_option maxHeartbeats 4000000 in
set_option maxRecDepth 100000 in
theorem lk_34 {L : Nat} {xs : Nat → Int32} {i : Int} (hL : L ≤ 3072) (h0 : 0 ≤ i) (h1 : i + 5 < L) (K : ∀ h, LI h → m_Y (xL L xs) oF M_law 1488 [some (mO 41), some (mR 0), some (mR 108), some (mI i)] [] h Ql) (h : m_H) (I : LI h) : m_Y (xL L xs) oF M_law 1360 [some (mO 41), some (mR 0), some (mR 108), some (mI i)] [] h Ql := by
  obtain ⟨G0, N0, T0, LX0, DR0⟩ := I
  refine y_aload_n (M := M_law) 1360 dL_law_1360 rfl ?_
  refine y_aload_nO (M := M_law) 1361 dL_law_1361 rfl ?_
  refine y_iload_n (M := M_law) 1362 dL_law_1362 rfl ?_
  refine y_iconst (M := M_law) 1363 dL_law_1363 ?_
  refine y_iaddN (M := M_law) 1364 dL_law_1364 (by omega) (by omega) ?_
  refine y_sld (M := M_law) 1365 dL_law_1365 (by omega) (by omega) ?_
  refine y_vI (M := M_law) 1366 dL_law_1366 t_X11_trade ll_156 (m_rr_of rfl) (rest := []) (c_X11_trade2 h (sc xs (i + 1)) G0) o_0 rfl rfl rfl (Nat.le_of_ble_eq_true rfl) ⟨rfl, rfl⟩ (fun x1 h1 q1 => ?_)
  obtain ⟨G1, S1, p1_0⟩ := q1
  have N1 := NP.call N0 S1 (fun _ => rfl) (fun _ => rfl) (fun _ => rfl)
  have u1 : h1 108 8 = h 108 8 := S1 108 8 rfl
  have w1 : h1 35 1 = h 35 1 := S1 35 1 rfl
  have LX1 := LX0.cls S1 (by decide) (by decide) (by decide) (by decide) (by decide)
  have DR1 := DR0.cls S1 (by decide) ⟨rfl, rfl, rfl⟩ (by decide)
  refine y_pop (M := M_law) 1369 dL_law_1369 rfl ?_
  refine y_aload_n (M := M_law) 1370 dL_law_1370 rfl ?_
  refine y_aload_nO (M := M_law) 1371 dL_law_1371 rfl ?_
  refine y_iload_n (M := M_law) 1372 dL_law_1372 rfl ?_
  refine y_iconst (M := M_law) 1373 dL_law_1373 ?_
  refine y_iaddN (M := M_law) 1374 dL_law_1374 (by omega) (by omega) ?_
  refine y_sld (M := M_law) 1375 dL_law_1375 (by omega) (by omega) ?_
  refine y_vI (M := M_law) 1376 dL_law_1376 t_X12_trade ll_159 (m_rr_of rfl) (rest := []) (c_X12_trade2 h1 (sc xs (i + 1)) G1) o_108 rfl rfl rfl (Nat.le_of_ble_eq_true rfl) ⟨rfl, rfl⟩ (fun x2 h2 q2 => ?_)
  obtain ⟨G2, S2, p2_0⟩ := q2
  have N2 := NP.call N1 S2 (fun _ => rfl) (fun _ => rfl) (fun _ => rfl)
  have u2 : h2 108 8 = h1 108 8 := S2 108 8 rfl
  have w2 : h2 35 1 = h1 35 1 := S2 35 1 rfl
  have LX2 := LX1.cls S2 (by decide) (by decide) (by decide) (by decide) (by decide)
  have exy := DR0.trade S1 p1_0 p2_0 (by decide)
  have DR2 := DR1.cls S2 (by decide) ⟨rfl, rfl, rfl⟩ (by decide)
  refine y_pop (M := M_law) 1379 dL_law_1379 rfl ?_
  refine y_goto (M := M_law) 1380 dL_law_1380 1488 rfl ?_
  exact K h2 ⟨G2, N2, by omega, LX2, DR2⟩
set_option maxHeartbeats 4000000 in
set_option maxRecDepth 100000 in
theorem lk_35 {L : Nat} {xs : Nat → Int32} {i : Int} (hL : L ≤ 3072) (h0 : 0 ≤ i) (h1 : i + 5 < L) (K : ∀ h, LI h → m_Y (xL L xs) oF M_law 1488 [some (mO 41), some (mR 0), some (mR 108), some (mI i)] [] h Ql) (h : m_H) (I : LI h) : m_Y (xL L xs) oF M_law 1383 [some (mO 41), some (mR 0), some (mR 108), some (mI i)] [] h Ql := by
  obtain ⟨G0, N0, T0, LX0, DR0⟩ := I
  refine y_aload_n (M := M_law) 1383 dL_law_1383 rfl ?_
  refine y_aload_nO (M := M_law) 1384 dL_law_1384 rfl ?_
  refine y_iload_n (M := M_law) 1385 dL_law_1385 rfl ?_
  refine y_iconst (M := M_law) 1386 dL_law_1386 ?_
  refine y_iaddN (M := M_law) 1387 dL_law_1387 (by omega) (by omega) ?_
  refine y_sld (M := M_law) 1388 dL_law_1388 (by omega) (by omega) ?_
  refine y_vI (M := M_law) 1389 dL_law_1389 t_X11_told ll_160 (m_rr_of rfl) (rest := []) (c_X11_told3 h (sc xs (i + 1)) G0) o_0 rfl rfl rfl (Nat.le_of_ble_eq_true rfl) ⟨rfl, rfl⟩ (fun x1 h1 q1 => ?_)
  obtain ⟨G1, S1, p1_0⟩ := q1
  have N1 := NP.call N0 S1 (fun _ => rfl) (fun _ => rfl) (fun _ => rfl)
  have u1 : h1 108 8 = h 108 8 := S1 108 8 rfl
  have w1 : h1 35 1 = h 35 1 := S1 35 1 rfl
  have LX1 := LX0.cls S1 (by decide) (by decide) (by decide) (by decide) (by decide)
  have DR1 := DR0.cls S1 (by decide) ⟨rfl, rfl, rfl⟩ (by decide)
  refine y_aload_n (M := M_law) 1392 dL_law_1392 rfl ?_
  refine y_aload_nO (M := M_law) 1393 dL_law_1393 rfl ?_
  refine y_iload_n (M := M_law) 1394 dL_law_1394 rfl ?_
  refine y_iconst (M := M_law) 1395 dL_law_1395 ?_
  refine y_iaddN (M := M_law) 1396 dL_law_1396 (by omega) (by omega) ?_
  refine y_sld (M := M_law) 1397 dL_law_1397 (by omega) (by omega) ?_
  refine y_vI (M := M_law) 1398 dL_law_1398 t_X12_told ll_163 (m_rr_of rfl) (rest := [mI x1]) (c_X12_told3 h1 (sc xs (i + 1)) G1) o_108 rfl rfl rfl (Nat.le_of_ble_eq_true rfl) ⟨rfl, rfl⟩ (fun x2 h2 q2 => ?_)
  obtain ⟨G2, S2, p2_0⟩ := q2
  have N2 := NP.call N1 S2 (fun _ => rfl) (fun _ => rfl) (fun _ => rfl)
  have u2 : h2 108 8 = h1 108 8 := S2 108 8 rfl
  have w2 : h2 35 1 = h1 35 1 := S2 35 1 rfl
  have LX2 := LX1.cls S2 (by decide) (by decide) (by decide) (by decide) (by decide)
  have exy := LX0.told DR0 G0 S1 p1_0 p2_0 (by decide)
  have DR2 := DR1.cls S2 (by decide) ⟨rfl, rfl, rfl⟩ (by decide)
  refine y_icmp_eq (M := M_law) 1401 dL_law_1401 1488 rfl (fun c => ?_) (fun c => ?_)
  · exact K h2 ⟨G2, N2, by omega, LX2, DR2⟩
  · exfalso; omega
set_option maxHeartbeats 4000000 in
set_option maxRecDepth 100000 in
theorem lk_36 {L : Nat} {xs : Nat → Int32} {i : Int} (hL : L ≤ 3072) (h0 : 0 ≤ i) (h1 : i + 5 < L) (K : ∀ h, LI h → m_Y (xL L xs) oF M_law 1488 [some (mO 41), some (mR 0), some (mR 108), some (mI i)] [] h Ql) (h : m_H) (I : LI h) : m_Y (xL L xs) oF M_law 1406 [some (mO 41), some (mR 0), some (mR 108), some (mI i)] [] h Ql := by
  obtain ⟨G0, N0, T0, LX0, DR0⟩ := I
  refine y_aload_n (M := M_law) 1406 dL_law_1406 rfl ?_
  refine y_aload_nO (M := M_law) 1407 dL_law_1407 rfl ?_
  refine y_iload_n (M := M_law) 1408 dL_law_1408 rfl ?_
  refine y_iconst (M := M_law) 1409 dL_law_1409 ?_
  refine y_iaddN (M := M_law) 1410 dL_law_1410 (by omega) (by omega) ?_
  refine y_sld (M := M_law) 1411 dL_law_1411 (by omega) (by omega) ?_
  refine y_vI (M := M_law) 1412 dL_law_1412 t_X11_image ll_164 (m_rr_of rfl) (rest := []) (c_X11_image3 h (sc xs (i + 1)) G0) o_0 rfl rfl rfl (Nat.le_of_ble_eq_true rfl) ⟨rfl, rfl⟩ (fun x1 h1 q1 => ?_)
  obtain ⟨G1, S1, p1_0, p1_1⟩ := q1
  have N1 := NP.call N0 S1 (fun _ => rfl) (fun _ => rfl) (fun _ => rfl)
  have u1 : h1 108 8 = h 108 8 := S1 108 8 rfl
  have w1 : h1 35 1 = h 35 1 := S1 35 1 rfl
  have DR1 := DR0.cls S1 (by decide) ⟨rfl, rfl, rfl⟩ (by decide)
  refine y_pop (M := M_law) 1415 dL_law_1415 rfl ?_
  refine y_aload_n (M := M_law) 1416 dL_law_1416 rfl ?_
  refine y_aload_nO (M := M_law) 1417 dL_law_1417 rfl ?_
  refine y_iload_n (M := M_law) 1418 dL_law_1418 rfl ?_
  refine y_iconst (M := M_law) 1419 dL_law_1419 ?_
  refine y_iaddN (M := M_law) 1420 dL_law_1420 (by omega) (by omega) ?_
  refine y_sld (M := M_law) 1421 dL_law_1421 (by omega) (by omega) ?_
  refine y_vI (M := M_law) 1422 dL_law_1422 t_X12_image ll_167 (m_rr_of rfl) (rest := []) (c_X12_image2 h1 (sc xs (i + 1)) G1) o_108 rfl rfl rfl (Nat.le_of_ble_eq_true rfl) ⟨rfl, rfl⟩ (fun x2 h2 q2 => ?_)
  obtain ⟨G2, S2, p2_0, p2_1, p2_2⟩ := q2
  have N2 := p2_2.1 N1
  have u2 : h2 108 8 = h1 108 8 := S2 108 8 rfl
  have w2 : h2 35 1 = h1 35 1 := S2 35 1 rfl
  obtain ⟨LX2, exy⟩ := LX0.image S1 S2 p1_0 p1_1 p2_0 p2_1 (by decide) (by decide) (by decide) (by decide) (by decide) (by decide) (by decide) (by decide) (by decide)
  have DR2 := DR1.cls S2 (by decide) ⟨rfl, rfl, rfl⟩ (by decide)
  refine y_pop (M := M_law) 1425 dL_law_1425 rfl ?_
  refine y_goto (M := M_law) 1426 dL_law_1426 1488 rfl ?_
  exact K h2 ⟨G2, N2, by omega, LX2, DR2⟩
set_option maxHeartbeats 4000000 in
set_option maxRecDepth 100000 in
theorem lk_37 {L : Nat} {xs : Nat → Int32} {i : Int} (hL : L ≤ 3072) (h0 : 0 ≤ i) (h1 : i + 5 < L) (K : ∀ h, LI h → m_Y (xL L xs) oF M_law 1488 [some (mO 41), some (mR 0), some (mR 108), some (mI i)] [] h Ql) (h : m_H) (I : LI h) : m_Y (xL L xs) oF M_law 1429 [some (mO 41), some (mR 0), some (mR 108), some (mI i)] [] h Ql := by
  obtain ⟨G0, N0, T0, LX0, DR0⟩ := I
  refine y_aload_n (M := M_law) 1429 dL_law_1429 rfl ?_
  refine y_aload_nO (M := M_law) 1430 dL_law_1430 rfl ?_
  refine y_iload_n (M := M_law) 1431 dL_law_1431 rfl ?_
  refine y_iconst (M := M_law) 1432 dL_law_1432 ?_
  refine y_iaddN (M := M_law) 1433 dL_law_1433 (by omega) (by omega) ?_
  refine y_sld (M := M_law) 1434 dL_law_1434 (by omega) (by omega) ?_
  refine y_vI (M := M_law) 1435 dL_law_1435 t_X11_back ll_168 (m_rr_of rfl) (rest := []) (c_X11_back2 h (sc xs (i + 1)) G0) o_0 rfl rfl rfl (Nat.le_of_ble_eq_true rfl) ⟨rfl, rfl⟩ (fun x1 h1 q1 => ?_)
  obtain ⟨G1, S1, p1_0, p1_1⟩ := q1
  have N1 := NP.call N0 S1 (fun _ => rfl) (fun _ => rfl) (fun _ => rfl)
  have u1 : h1 108 8 = h 108 8 := S1 108 8 rfl
  have w1 : h1 35 1 = h 35 1 := S1 35 1 rfl
  have DR1 := DR0.cls S1 (by decide) ⟨rfl, rfl, rfl⟩ (by decide)
  refine y_pop (M := M_law) 1438 dL_law_1438 rfl ?_
  refine y_aload_n (M := M_law) 1439 dL_law_1439 rfl ?_
  refine y_aload_nO (M := M_law) 1440 dL_law_1440 rfl ?_
  refine y_iload_n (M := M_law) 1441 dL_law_1441 rfl ?_
  refine y_iconst (M := M_law) 1442 dL_law_1442 ?_
  refine y_iaddN (M := M_law) 1443 dL_law_1443 (by omega) (by omega) ?_
  refine y_sld (M := M_law) 1444 dL_law_1444 (by omega) (by omega) ?_
  refine y_vI (M := M_law) 1445 dL_law_1445 t_X12_back ll_171 (m_rr_of rfl) (rest := []) (c_X12_back2 h1 (sc xs (i + 1)) G1) o_108 rfl rfl rfl (Nat.le_of_ble_eq_true rfl) ⟨rfl, rfl⟩ (fun x2 h2 q2 => ?_)
  obtain ⟨G2, S2, p2_0, p2_1, p2_2⟩ := q2
  have N2 := p2_2 N1
  have u2 : h2 108 8 = h1 108 8 := S2 108 8 rfl
  have w2 : h2 35 1 = h1 35 1 := S2 35 1 rfl
  obtain ⟨LX2, exy⟩ := LX0.back S1 S2 p1_0 p1_1 p2_0 p2_1 (by decide) (by decide) (by decide) (by decide) (by decide) (by decide) (by decide) (by decide)
  have DR2 := DR1.cls S2 (by decide) ⟨rfl, rfl, rfl⟩ (by decide)
  refine y_pop (M := M_law) 1448 dL_law_1448 rfl ?_
  refine y_goto (M := M_law) 1449 dL_law_1449 1488 rfl ?_
  exact K h2 ⟨G2, N2, by omega, LX2, DR2⟩
set_option maxHeartbeats 4000000 in
set_option maxRecDepth 100000 in
theorem lk_38 {L : Nat} {xs : Nat → Int32} {i : Int} (hL : L ≤ 3072) (h0 : 0 ≤ i) (h1 : i + 5 < L) (K : ∀ h, LI h → m_Y (xL L xs) oF M_law 1488 [some (mO 41), some (mR 0), some (mR 108), some (mI i)] [] h Ql) (h : m_H) (I : LI h) : m_Y (xL L xs) oF M_law 1452 [some (mO 41), some (mR 0), some (mR 108), some (mI i)] [] h Ql := by
  obtain ⟨G0, N0, T0, LX0, DR0⟩ := I
  refine y_aload_n (M := M_law) 1452 dL_law_1452 rfl ?_
  refine y_aload_nO (M := M_law) 1453 dL_law_1453 rfl ?_
  refine y_iload_n (M := M_law) 1454 dL_law_1454 rfl ?_
  refine y_iconst (M := M_law) 1455 dL_law_1455 ?_
  refine y_iaddN (M := M_law) 1456 dL_law_1456 (by omega) (by omega) ?_
  refine y_sld (M := M_law) 1457 dL_law_1457 (by omega) (by omega) ?_
  refine y_vI (M := M_law) 1458 dL_law_1458 t_X11_count ll_172 (m_rr_of rfl) (rest := []) (c_X11_count h (sc xs (i + 1)) G0) o_0 rfl rfl rfl (Nat.le_of_ble_eq_true rfl) ⟨rfl, rfl⟩ (fun x1 h1 q1 => ?_)
  obtain ⟨G1, S1⟩ := q1
  have N1 := NP.call N0 S1 (fun _ => rfl) (fun _ => rfl) (fun _ => rfl)
  have u1 : h1 108 8 = h 108 8 := S1 108 8 rfl
  have w1 : h1 35 1 = h 35 1 := S1 35 1 rfl
  have LX1 := LX0.cls S1 (by decide) (by decide) (by decide) (by decide) (by decide)
  have DR1 := DR0.cls S1 (by decide) ⟨rfl, rfl, rfl⟩ (by decide)
  refine y_pop (M := M_law) 1461 dL_law_1461 rfl ?_
  refine y_aload_n (M := M_law) 1462 dL_law_1462 rfl ?_
  refine y_aload_nO (M := M_law) 1463 dL_law_1463 rfl ?_
  refine y_iload_n (M := M_law) 1464 dL_law_1464 rfl ?_
  refine y_iconst (M := M_law) 1465 dL_law_1465 ?_
  refine y_iaddN (M := M_law) 1466 dL_law_1466 (by omega) (by omega) ?_
  refine y_sld (M := M_law) 1467 dL_law_1467 (by omega) (by omega) ?_
  refine y_vI (M := M_law) 1468 dL_law_1468 t_X12_count ll_175 (m_rr_of rfl) (rest := []) (c_X12_count h1 (sc xs (i + 1)) G1) o_108 rfl rfl rfl (Nat.le_of_ble_eq_true rfl) ⟨rfl, rfl⟩ (fun x2 h2 q2 => ?_)
  obtain ⟨G2, S2⟩ := q2
  have N2 := NP.call N1 S2 (fun _ => rfl) (fun _ => rfl) (fun _ => rfl)
  have u2 : h2 108 8 = h1 108 8 := S2 108 8 rfl
  have w2 : h2 35 1 = h1 35 1 := S2 35 1 rfl
  have LX2 := LX1.cls S2 (by decide) (by decide) (by decide) (by decide) (by decide)
  have DR2 := DR1.cls S2 (by decide) ⟨rfl, rfl, rfl⟩ (by decide)
  refine y_pop (M := M_law) 1471 dL_law_1471 rfl ?_
  refine y_goto (M := M_law) 1472 dL_law_1472 1488 rfl ?_
  exact K h2 ⟨G2, N2, by omega, LX2, DR2⟩
set_option maxHeartbeats 4000000 in
set_option maxRecDepth 100000 in
theorem lk_39 {L : Nat} {xs : Nat → Int32} {i : Int} (hL : L ≤ 3072) (h0 : 0 ≤ i) (h1 : i + 5 < L) (K : ∀ h, LI h → m_Y (xL L xs) oF M_law 1488 [some (mO 41), some (mR 0), some (mR 108), some (mI i)] [] h Ql) (h : m_H) (I : LI h) : m_Y (xL L xs) oF M_law 1475 [some (mO 41), some (mR 0), some (mR 108), some (mI i)] [] h Ql := by
  obtain ⟨G0, N0, T0, LX0, DR0⟩ := I
  refine y_aload_n (M := M_law) 1475 dL_law_1475 rfl ?_
  refine y_vI (M := M_law) 1476 dL_law_1476 t_X11_status ll_176 (m_rr_of rfl) (rest := []) (c_X11_status h G0) o_0 rfl rfl rfl (Nat.le_of_ble_eq_true rfl) ⟨rfl, rfl⟩ (fun x1 h1 q1 => ?_)
  obtain ⟨G1, S1⟩ := q1
  have N1 := NP.call N0 S1 (fun _ => rfl) (fun _ => rfl) (fun _ => rfl)
  have u1 : h1 108 8 = h 108 8 := S1 108 8 rfl
  have w1 : h1 35 1 = h 35 1 := S1 35 1 rfl
  have LX1 := LX0.cls S1 (by decide) (by decide) (by decide) (by decide) (by decide)
  have DR1 := DR0.cls S1 (by decide) ⟨rfl, rfl, rfl⟩ (by decide)
  refine y_pop (M := M_law) 1479 dL_law_1479 rfl ?_
  refine y_aload_n (M := M_law) 1480 dL_law_1480 rfl ?_
  refine y_vI (M := M_law) 1481 dL_law_1481 t_X12_status ll_179 (m_rr_of rfl) (rest := []) (c_X12_status h1 G1) o_108 rfl rfl rfl (Nat.le_of_ble_eq_true rfl) ⟨rfl, rfl⟩ (fun x2 h2 q2 => ?_)
  obtain ⟨G2, S2⟩ := q2
  have N2 := NP.call N1 S2 (fun _ => rfl) (fun _ => rfl) (fun _ => rfl)
  have u2 : h2 108 8 = h1 108 8 := S2 108 8 rfl
  have w2 : h2 35 1 = h1 35 1 := S2 35 1 rfl
  have LX2 := LX1.cls S2 (by decide) (by decide) (by decide) (by decide) (by decide)
  have DR2 := DR1.cls S2 (by decide) ⟨rfl, rfl, rfl⟩ (by decide)
  refine y_pop (M := M_law) 1484 dL_law_1484 rfl ?_
  refine y_goto (M := M_law) 1485 dL_law_1485 1488 rfl ?_
  exact K h2 ⟨G2, N2, by omega, LX2, DR2⟩
