set_option maxHeartbeats 4000000 in
set_option maxRecDepth 100000 in
theorem lwc_of {p : Program} {l : Launch} {e : Env} {s : State} {m : MethodId} {below : List Frame} {meth : Method} {c : Code} {D : va_G} {cI cZ cO : ClassId} {A : Nat → Prop} {kc ks b L : Nat} {xs : Nat → Int32} {g : Nat → Nat} {i : Int} {Q : State → Prop} (C : z_C p s m #[Value.ref b] meth c D (z_T cI cZ cO) A cL_law 4 RL wsL_law ret) (hX : va_X b L xs s s.heap) (hbl : b < s.heap.size) (hbA : ¬ A b) (hL : L ≤ 1536) (hi : 0 ≤ i ∧ i + 3 ≤ (L : Int)) (hkc : kc ≤ room_1.cells ∧ ks ≤ room_1.slots)
    {ct : z_Ct} {kp od : Int} {hr : Int → z_Ct} {sl : Int → z_Ct} {us : Int → Int} {tr : z_Wv} {pl : Int} {sg : Int → Int} {kn : Int} {f pf slf svf pd : Int → Int} (I : lw_inv ct kp od hr sl us pl sg kn f pf slf svf pd)
    (kk : ∀ (ct : z_Ct) (kp od : Int) (hr : Int → z_Ct) (sl : Int → z_Ct) (us : Int → Int) (tr : z_Wv) (pl : Int) (sg : Int → Int) (kn : Int) (f pf slf svf pd : Int → Int), lw_inv ct kp od hr sl us pl sg kn f pf slf svf pd → z_V p l e room_1 s m #[Value.ref b] below meth c D A 4 kc ks Q (lw_W cI cZ cO g ct kp od hr sl us tr pl sg kn pl f pf slf svf pd).flatten 632 [(3, .int (z_I i)), (0, .ref b), (1, .ref (g 0)), (2, .ref (g 161))] []) :
    z_V p l e room_1 s m #[Value.ref b] below meth c D A 4 kc ks Q (lw_W cI cZ cO g ct kp od hr sl us tr pl sg kn pl f pf slf svf pd).flatten 264 [(3, .int (z_I i)), (0, .ref b), (1, .ref (g 0)), (2, .ref (g 161))] [] := by
  obtain ⟨⟨hok, ht⟩, hkp, hod, hhr, hsl, hpl, hsg, hrel, hmh, hmv, hpr⟩ := I
  refine z_aload_n C 2 dL_law_264 rfl ?_
  refine z_aload_n C 1 dL_law_265 rfl ?_
  refine z_iload_n C 0 dL_law_266 rfl ?_
  refine z_iconst C 1 dL_law_267 ?_
  refine z_iadd C dL_law_268 ?_
  refine z_sld C hX hbl hbA hL (by omega) dL_law_269 ?_
  refine z_aload_n C 1 dL_law_270 rfl ?_
  refine z_iload_n C 0 dL_law_271 rfl ?_
  refine z_iconst C 2 dL_law_272 ?_
  refine z_iadd C dL_law_273 ?_
  refine z_sld C hX hbl hbA hL (by omega) dL_law_274 ?_
  refine z_callL C (lw_W cI cZ cO g ct kp od hr sl us tr pl sg kn pl f pf slf svf pd) (lw_W cI cZ cO g ct kp od hr sl us tr pl sg kn pl f pf slf svf pd) [0, 1, 2] [.int (z_I (lw_x xs (i + 1))), .int (z_I (lw_x xs (i + 2)))] [] (c_X6_of l D cI cZ cO (g 0) (g 16) (g 123) (g 124) (g 125) (g 129) (g 1) (g 2) (g 3) (g 4) (g 5) (g 6) (g 7) (g 8) (g 9) (g 10) (g 11) (g 12) (g 13) (g 14) (g 15) ct (lw_x xs (i + 1)) (lw_x xs (i + 2)) hok ht (lw_x_rng _ _) (lw_x_rng _ _)) gL_law_X6_of rfl rfl rfl zd_X6_of rfl ⟨Nat.le_of_ble_eq_true rfl, Nat.le_of_ble_eq_true rfl⟩ rfl rfl lw_k_0_1_2 (by decide) rfl (Nat.le_of_ble_eq_true rfl) hkc dL_law_275 ?_
  refine z_aload_n C 3 dL_law_278 rfl ?_
  refine z_aload_n C 1 dL_law_279 rfl ?_
  refine z_iload_n C 0 dL_law_280 rfl ?_
  refine z_iconst C 1 dL_law_281 ?_
  refine z_iadd C dL_law_282 ?_
  refine z_sld C hX hbl hbA hL (by omega) dL_law_283 ?_
  refine z_aload_n C 1 dL_law_284 rfl ?_
  refine z_iload_n C 0 dL_law_285 rfl ?_
  refine z_iconst C 2 dL_law_286 ?_
  refine z_iadd C dL_law_287 ?_
  refine z_sld C hX hbl hbA hL (by omega) dL_law_288 ?_
  refine z_callL C (lw_W cI cZ cO g ct kp od hr sl us tr pl sg kn pl f pf slf svf pd) (lw_W cI cZ cO g ct kp od hr sl us tr pl sg kn pl f pf slf svf pd) [20, 21] [.int (z_I (lw_x xs (i + 1))), .int (z_I (lw_x xs (i + 2)))] _ (c_X7_of l D cI cZ cO (g 161) (g 162) (g 163) (g 164) (g 165) (g 166) kn pl f ct (lw_x xs (i + 1)) (lw_x xs (i + 2)) hrel hok ht (lw_x_rng _ _) (lw_x_rng _ _)) gL_law_X7_of rfl rfl rfl zd_X7_of rfl ⟨Nat.le_of_ble_eq_true rfl, Nat.le_of_ble_eq_true rfl⟩ rfl rfl lw_k_20_21 (by decide) rfl (Nat.le_of_ble_eq_true rfl) hkc dL_law_289 ?_
  refine z_ieqT C rfl 632 dL_law_292 (by decide) ?_
  exact kk ct kp od hr sl us tr pl sg kn f pf slf svf pd ⟨⟨hok, ht⟩, hkp, hod, hhr, hsl, hpl, hsg, hrel, hmh, hmv, hpr⟩
set_option maxHeartbeats 4000000 in
set_option maxRecDepth 100000 in
theorem lwc_reading {p : Program} {l : Launch} {e : Env} {s : State} {m : MethodId} {below : List Frame} {meth : Method} {c : Code} {D : va_G} {cI cZ cO : ClassId} {A : Nat → Prop} {kc ks b L : Nat} {xs : Nat → Int32} {g : Nat → Nat} {i : Int} {Q : State → Prop} (C : z_C p s m #[Value.ref b] meth c D (z_T cI cZ cO) A cL_law 4 RL wsL_law ret) (hX : va_X b L xs s s.heap) (hbl : b < s.heap.size) (hbA : ¬ A b) (hL : L ≤ 1536) (hi : 0 ≤ i ∧ i + 3 ≤ (L : Int)) (hkc : kc ≤ room_1.cells ∧ ks ≤ room_1.slots)
    {ct : z_Ct} {kp od : Int} {hr : Int → z_Ct} {sl : Int → z_Ct} {us : Int → Int} {tr : z_Wv} {pl : Int} {sg : Int → Int} {kn : Int} {f pf slf svf pd : Int → Int} (I : lw_inv ct kp od hr sl us pl sg kn f pf slf svf pd)
    (kk : ∀ (ct : z_Ct) (kp od : Int) (hr : Int → z_Ct) (sl : Int → z_Ct) (us : Int → Int) (tr : z_Wv) (pl : Int) (sg : Int → Int) (kn : Int) (f pf slf svf pd : Int → Int), lw_inv ct kp od hr sl us pl sg kn f pf slf svf pd → z_V p l e room_1 s m #[Value.ref b] below meth c D A 4 kc ks Q (lw_W cI cZ cO g ct kp od hr sl us tr pl sg kn pl f pf slf svf pd).flatten 632 [(3, .int (z_I i)), (0, .ref b), (1, .ref (g 0)), (2, .ref (g 161))] []) :
    z_V p l e room_1 s m #[Value.ref b] below meth c D A 4 kc ks Q (lw_W cI cZ cO g ct kp od hr sl us tr pl sg kn pl f pf slf svf pd).flatten 297 [(3, .int (z_I i)), (0, .ref b), (1, .ref (g 0)), (2, .ref (g 161))] [] := by
  obtain ⟨⟨hok, ht⟩, hkp, hod, hhr, hsl, hpl, hsg, hrel, hmh, hmv, hpr⟩ := I
  refine z_aload_n C 2 dL_law_297 rfl ?_
  refine z_aload_n C 1 dL_law_298 rfl ?_
  refine z_iload_n C 0 dL_law_299 rfl ?_
  refine z_iconst C 1 dL_law_300 ?_
  refine z_iadd C dL_law_301 ?_
  refine z_sld C hX hbl hbA hL (by omega) dL_law_302 ?_
  refine z_aload_n C 1 dL_law_303 rfl ?_
  refine z_iload_n C 0 dL_law_304 rfl ?_
  refine z_iconst C 2 dL_law_305 ?_
  refine z_iadd C dL_law_306 ?_
  refine z_sld C hX hbl hbA hL (by omega) dL_law_307 ?_
  refine z_callL C (lw_W cI cZ cO g ct kp od hr sl us tr pl sg kn pl f pf slf svf pd) (lw_W cI cZ cO g ct kp od hr sl us tr pl sg kn pl f pf slf svf pd) [0, 1, 3] [.int (z_I (lw_x xs (i + 1))), .int (z_I (lw_x xs (i + 2)))] [] (c_X6_reading l D cI cZ cO (g 0) (g 16) (g 123) (g 124) (g 125) (g 129) (g 1) (g 2) (g 3) (g 4) (g 5) (g 6) (g 7) (g 8) (g 9) (g 10) (g 11) (g 12) (g 13) (g 14) (g 15) ct (lw_x xs (i + 1)) (lw_x xs (i + 2)) hok ht (lw_x_rng _ _) (lw_x_rng _ _)) gL_law_X6_reading rfl rfl rfl zd_X6_reading rfl ⟨Nat.le_of_ble_eq_true rfl, Nat.le_of_ble_eq_true rfl⟩ rfl rfl lw_k_0_1_3 (by decide) rfl (Nat.le_of_ble_eq_true rfl) hkc dL_law_308 ?_
  refine z_aload_n C 3 dL_law_311 rfl ?_
  refine z_aload_n C 1 dL_law_312 rfl ?_
  refine z_iload_n C 0 dL_law_313 rfl ?_
  refine z_iconst C 1 dL_law_314 ?_
  refine z_iadd C dL_law_315 ?_
  refine z_sld C hX hbl hbA hL (by omega) dL_law_316 ?_
  refine z_aload_n C 1 dL_law_317 rfl ?_
  refine z_iload_n C 0 dL_law_318 rfl ?_
  refine z_iconst C 2 dL_law_319 ?_
  refine z_iadd C dL_law_320 ?_
  refine z_sld C hX hbl hbA hL (by omega) dL_law_321 ?_
  refine z_callL C (lw_W cI cZ cO g ct kp od hr sl us tr pl sg kn pl f pf slf svf pd) (lw_W cI cZ cO g ct kp od hr sl us tr pl sg kn pl f pf slf svf pd) [20, 21] [.int (z_I (lw_x xs (i + 1))), .int (z_I (lw_x xs (i + 2)))] _ (c_X7_reading l D cI cZ cO (g 161) (g 162) (g 163) (g 164) (g 165) (g 166) kn pl f ct (lw_x xs (i + 1)) (lw_x xs (i + 2)) hrel hok ht (lw_x_rng _ _) (lw_x_rng _ _)) gL_law_X7_reading rfl rfl rfl zd_X7_reading rfl ⟨Nat.le_of_ble_eq_true rfl, Nat.le_of_ble_eq_true rfl⟩ rfl rfl lw_k_20_21 (by decide) rfl (Nat.le_of_ble_eq_true rfl) hkc dL_law_322 ?_
  refine z_ieqT C rfl 632 dL_law_325 (by decide) ?_
  exact kk ct kp od hr sl us tr pl sg kn f pf slf svf pd ⟨⟨hok, ht⟩, hkp, hod, hhr, hsl, hpl, hsg, hrel, hmh, hmv, hpr⟩
set_option maxHeartbeats 4000000 in
set_option maxRecDepth 100000 in
theorem lwc_seen {p : Program} {l : Launch} {e : Env} {s : State} {m : MethodId} {below : List Frame} {meth : Method} {c : Code} {D : va_G} {cI cZ cO : ClassId} {A : Nat → Prop} {kc ks b L : Nat} {xs : Nat → Int32} {g : Nat → Nat} {i : Int} {Q : State → Prop} (C : z_C p s m #[Value.ref b] meth c D (z_T cI cZ cO) A cL_law 4 RL wsL_law ret) (hX : va_X b L xs s s.heap) (hbl : b < s.heap.size) (hbA : ¬ A b) (hL : L ≤ 1536) (hi : 0 ≤ i ∧ i + 3 ≤ (L : Int)) (hkc : kc ≤ room_1.cells ∧ ks ≤ room_1.slots)
    {ct : z_Ct} {kp od : Int} {hr : Int → z_Ct} {sl : Int → z_Ct} {us : Int → Int} {tr : z_Wv} {pl : Int} {sg : Int → Int} {kn : Int} {f pf slf svf pd : Int → Int} (I : lw_inv ct kp od hr sl us pl sg kn f pf slf svf pd)
    (kk : ∀ (ct : z_Ct) (kp od : Int) (hr : Int → z_Ct) (sl : Int → z_Ct) (us : Int → Int) (tr : z_Wv) (pl : Int) (sg : Int → Int) (kn : Int) (f pf slf svf pd : Int → Int), lw_inv ct kp od hr sl us pl sg kn f pf slf svf pd → z_V p l e room_1 s m #[Value.ref b] below meth c D A 4 kc ks Q (lw_W cI cZ cO g ct kp od hr sl us tr pl sg kn pl f pf slf svf pd).flatten 632 [(3, .int (z_I i)), (0, .ref b), (1, .ref (g 0)), (2, .ref (g 161))] []) :
    z_V p l e room_1 s m #[Value.ref b] below meth c D A 4 kc ks Q (lw_W cI cZ cO g ct kp od hr sl us tr pl sg kn pl f pf slf svf pd).flatten 330 [(3, .int (z_I i)), (0, .ref b), (1, .ref (g 0)), (2, .ref (g 161))] [] := by
  obtain ⟨⟨hok, ht⟩, hkp, hod, hhr, hsl, hpl, hsg, hrel, hmh, hmv, hpr⟩ := I
  refine z_aload_n C 2 dL_law_330 rfl ?_
  refine z_aload_n C 1 dL_law_331 rfl ?_
  refine z_iload_n C 0 dL_law_332 rfl ?_
  refine z_iconst C 1 dL_law_333 ?_
  refine z_iadd C dL_law_334 ?_
  refine z_sld C hX hbl hbA hL (by omega) dL_law_335 ?_
  refine z_aload_n C 1 dL_law_336 rfl ?_
  refine z_iload_n C 0 dL_law_337 rfl ?_
  refine z_iconst C 2 dL_law_338 ?_
  refine z_iadd C dL_law_339 ?_
  refine z_sld C hX hbl hbA hL (by omega) dL_law_340 ?_
  refine z_callL C (lw_W cI cZ cO g ct kp od hr sl us tr pl sg kn pl f pf slf svf pd) (lw_W cI cZ cO g ct kp od hr sl us tr pl sg kn pl f pf slf svf pd) [0, 1, 4] [.int (z_I (lw_x xs (i + 1))), .int (z_I (lw_x xs (i + 2)))] [] (c_X6_seen l D cI cZ cO (g 0) (g 16) (g 123) (g 124) (g 125) (g 129) (g 1) (g 2) (g 3) (g 4) (g 5) (g 6) (g 7) (g 8) (g 9) (g 10) (g 11) (g 12) (g 13) (g 14) (g 15) ct (lw_x xs (i + 1)) (lw_x xs (i + 2)) hok ht (lw_x_rng _ _) (lw_x_rng _ _)) gL_law_X6_seen rfl rfl rfl zd_X6_seen rfl ⟨Nat.le_of_ble_eq_true rfl, Nat.le_of_ble_eq_true rfl⟩ rfl rfl lw_k_0_1_4 (by decide) rfl (Nat.le_of_ble_eq_true rfl) hkc dL_law_341 ?_
  refine z_aload_n C 3 dL_law_344 rfl ?_
  refine z_aload_n C 1 dL_law_345 rfl ?_
  refine z_iload_n C 0 dL_law_346 rfl ?_
  refine z_iconst C 1 dL_law_347 ?_
  refine z_iadd C dL_law_348 ?_
  refine z_sld C hX hbl hbA hL (by omega) dL_law_349 ?_
  refine z_aload_n C 1 dL_law_350 rfl ?_
  refine z_iload_n C 0 dL_law_351 rfl ?_
  refine z_iconst C 2 dL_law_352 ?_
  refine z_iadd C dL_law_353 ?_
  refine z_sld C hX hbl hbA hL (by omega) dL_law_354 ?_
  refine z_callL C (lw_W cI cZ cO g ct kp od hr sl us tr pl sg kn pl f pf slf svf pd) (lw_W cI cZ cO g ct kp od hr sl us tr pl sg kn pl f pf slf svf pd) [20, 21] [.int (z_I (lw_x xs (i + 1))), .int (z_I (lw_x xs (i + 2)))] _ (c_X7_seen l D cI cZ cO (g 161) (g 162) (g 163) (g 164) (g 165) (g 166) kn pl f ct (lw_x xs (i + 1)) (lw_x xs (i + 2)) hrel hok ht (lw_x_rng _ _) (lw_x_rng _ _)) gL_law_X7_seen rfl rfl rfl zd_X7_seen rfl ⟨Nat.le_of_ble_eq_true rfl, Nat.le_of_ble_eq_true rfl⟩ rfl rfl lw_k_20_21 (by decide) rfl (Nat.le_of_ble_eq_true rfl) hkc dL_law_355 ?_
  refine z_ieqT C rfl 632 dL_law_358 (by decide) ?_
  exact kk ct kp od hr sl us tr pl sg kn f pf slf svf pd ⟨⟨hok, ht⟩, hkp, hod, hhr, hsl, hpl, hsg, hrel, hmh, hmv, hpr⟩
set_option maxHeartbeats 4000000 in
set_option maxRecDepth 100000 in
theorem lwc_count {p : Program} {l : Launch} {e : Env} {s : State} {m : MethodId} {below : List Frame} {meth : Method} {c : Code} {D : va_G} {cI cZ cO : ClassId} {A : Nat → Prop} {kc ks b L : Nat} {xs : Nat → Int32} {g : Nat → Nat} {i : Int} {Q : State → Prop} (C : z_C p s m #[Value.ref b] meth c D (z_T cI cZ cO) A cL_law 4 RL wsL_law ret) (hX : va_X b L xs s s.heap) (hbl : b < s.heap.size) (hbA : ¬ A b) (hL : L ≤ 1536) (hi : 0 ≤ i ∧ i + 3 ≤ (L : Int)) (hkc : kc ≤ room_1.cells ∧ ks ≤ room_1.slots)
    {ct : z_Ct} {kp od : Int} {hr : Int → z_Ct} {sl : Int → z_Ct} {us : Int → Int} {tr : z_Wv} {pl : Int} {sg : Int → Int} {kn : Int} {f pf slf svf pd : Int → Int} (I : lw_inv ct kp od hr sl us pl sg kn f pf slf svf pd)
    (kk : ∀ (ct : z_Ct) (kp od : Int) (hr : Int → z_Ct) (sl : Int → z_Ct) (us : Int → Int) (tr : z_Wv) (pl : Int) (sg : Int → Int) (kn : Int) (f pf slf svf pd : Int → Int), lw_inv ct kp od hr sl us pl sg kn f pf slf svf pd → z_V p l e room_1 s m #[Value.ref b] below meth c D A 4 kc ks Q (lw_W cI cZ cO g ct kp od hr sl us tr pl sg kn pl f pf slf svf pd).flatten 632 [(3, .int (z_I i)), (0, .ref b), (1, .ref (g 0)), (2, .ref (g 161))] []) :
    z_V p l e room_1 s m #[Value.ref b] below meth c D A 4 kc ks Q (lw_W cI cZ cO g ct kp od hr sl us tr pl sg kn pl f pf slf svf pd).flatten 363 [(3, .int (z_I i)), (0, .ref b), (1, .ref (g 0)), (2, .ref (g 161))] [] := by
  obtain ⟨⟨hok, ht⟩, hkp, hod, hhr, hsl, hpl, hsg, hrel, hmh, hmv, hpr⟩ := I
  refine z_aload_n C 2 dL_law_363 rfl ?_
  refine z_aload_n C 1 dL_law_364 rfl ?_
  refine z_iload_n C 0 dL_law_365 rfl ?_
  refine z_iconst C 1 dL_law_366 ?_
  refine z_iadd C dL_law_367 ?_
  refine z_sld C hX hbl hbA hL (by omega) dL_law_368 ?_
  refine z_callL C (lw_W cI cZ cO g ct kp od hr sl us tr pl sg kn pl f pf slf svf pd) (lw_W cI cZ cO g ct kp od hr sl us tr pl sg kn pl f pf slf svf pd) [0, 1, 2, 3, 4, 17, 5] [.int (z_I (lw_x xs (i + 1)))] [] (c_X6_count l D cI cZ cO (g 0) (g 16) (g 123) (g 124) (g 125) (g 129) (g 1) (g 2) (g 3) (g 4) (g 5) (g 6) (g 7) (g 8) (g 9) (g 10) (g 11) (g 12) (g 13) (g 14) (g 15) ct (g 17) (g 130) kp od pl sg (lw_x xs (i + 1)) hok ht (lw_x_rng _ _)) gL_law_X6_count rfl rfl rfl zd_X6_count rfl ⟨Nat.le_of_ble_eq_true rfl, Nat.le_of_ble_eq_true rfl⟩ rfl rfl lw_k_0_1_2_3_4_17_5 (by decide) rfl (Nat.le_of_ble_eq_true rfl) hkc dL_law_369 ?_
  refine z_aload_n C 3 dL_law_372 rfl ?_
  refine z_aload_n C 1 dL_law_373 rfl ?_
  refine z_iload_n C 0 dL_law_374 rfl ?_
  refine z_iconst C 1 dL_law_375 ?_
  refine z_iadd C dL_law_376 ?_
  refine z_sld C hX hbl hbA hL (by omega) dL_law_377 ?_
  refine z_callL C (lw_W cI cZ cO g ct kp od hr sl us tr pl sg kn pl f pf slf svf pd) (lw_W cI cZ cO g ct kp od hr sl us tr pl sg kn pl f pf slf svf pd) [20, 21] [.int (z_I (lw_x xs (i + 1)))] _ (c_X7_count l D cI cZ cO (g 161) (g 162) (g 163) (g 164) (g 165) (g 166) kn pl f ct (lw_x xs (i + 1)) hrel hok ht (lw_x_rng _ _)) gL_law_X7_count rfl rfl rfl zd_X7_count rfl ⟨Nat.le_of_ble_eq_true rfl, Nat.le_of_ble_eq_true rfl⟩ rfl rfl lw_k_20_21 (by decide) rfl (Nat.le_of_ble_eq_true rfl) hkc dL_law_378 ?_
  refine z_ieqT C (by rw [hmh.1]) 632 dL_law_381 (by decide) ?_
  exact kk ct kp od hr sl us tr pl sg kn f pf slf svf pd ⟨⟨hok, ht⟩, hkp, hod, hhr, hsl, hpl, hsg, hrel, hmh, hmv, hpr⟩
set_option maxHeartbeats 4000000 in
set_option maxRecDepth 100000 in
theorem lwc_stillIn {p : Program} {l : Launch} {e : Env} {s : State} {m : MethodId} {below : List Frame} {meth : Method} {c : Code} {D : va_G} {cI cZ cO : ClassId} {A : Nat → Prop} {kc ks b L : Nat} {xs : Nat → Int32} {g : Nat → Nat} {i : Int} {Q : State → Prop} (C : z_C p s m #[Value.ref b] meth c D (z_T cI cZ cO) A cL_law 4 RL wsL_law ret) (hX : va_X b L xs s s.heap) (hbl : b < s.heap.size) (hbA : ¬ A b) (hL : L ≤ 1536) (hi : 0 ≤ i ∧ i + 3 ≤ (L : Int)) (hkc : kc ≤ room_1.cells ∧ ks ≤ room_1.slots)
    {ct : z_Ct} {kp od : Int} {hr : Int → z_Ct} {sl : Int → z_Ct} {us : Int → Int} {tr : z_Wv} {pl : Int} {sg : Int → Int} {kn : Int} {f pf slf svf pd : Int → Int} (I : lw_inv ct kp od hr sl us pl sg kn f pf slf svf pd)
    (kk : ∀ (ct : z_Ct) (kp od : Int) (hr : Int → z_Ct) (sl : Int → z_Ct) (us : Int → Int) (tr : z_Wv) (pl : Int) (sg : Int → Int) (kn : Int) (f pf slf svf pd : Int → Int), lw_inv ct kp od hr sl us pl sg kn f pf slf svf pd → z_V p l e room_1 s m #[Value.ref b] below meth c D A 4 kc ks Q (lw_W cI cZ cO g ct kp od hr sl us tr pl sg kn pl f pf slf svf pd).flatten 632 [(3, .int (z_I i)), (0, .ref b), (1, .ref (g 0)), (2, .ref (g 161))] []) :
    z_V p l e room_1 s m #[Value.ref b] below meth c D A 4 kc ks Q (lw_W cI cZ cO g ct kp od hr sl us tr pl sg kn pl f pf slf svf pd).flatten 386 [(3, .int (z_I i)), (0, .ref b), (1, .ref (g 0)), (2, .ref (g 161))] [] := by
  obtain ⟨⟨hok, ht⟩, hkp, hod, hhr, hsl, hpl, hsg, hrel, hmh, hmv, hpr⟩ := I
  refine z_aload_n C 2 dL_law_386 rfl ?_
  refine z_callL C (lw_W cI cZ cO g ct kp od hr sl us tr pl sg kn pl f pf slf svf pd) (lw_W cI cZ cO g ct kp od hr sl us ((z_si ct.1 0 101).2) pl sg kn pl f pf slf svf pd) [0, 1, 2, 16] [] [] (c_X6_stillIn l D cI cZ cO (g 0) (g 16) (g 123) (g 124) (g 125) (g 129) (g 1) (g 2) (g 3) (g 4) (g 5) (g 6) (g 7) (g 8) (g 9) (g 10) (g 11) (g 12) (g 13) (g 14) (g 15) ct (g 126) (g 127) (g 128) tr hok ht) gL_law_X6_stillIn rfl rfl rfl zd_X6_stillIn rfl ⟨Nat.le_of_ble_eq_true rfl, Nat.le_of_ble_eq_true rfl⟩ rfl rfl lw_k_0_1_2_16 (by decide) rfl (Nat.le_of_ble_eq_true rfl) hkc dL_law_387 ?_
  refine z_aload_n C 3 dL_law_390 rfl ?_
  refine z_callLE C (lw_W cI cZ cO g ct kp od hr sl us ((z_si ct.1 0 101).2) pl sg kn pl f pf slf svf pd) (fun u => (lw_W cI cZ cO g ct kp od hr sl us ((z_si ct.1 0 101).2) pl sg kn pl u pf slf svf pd)) [20, 21] [] _ (c_X7_stillIn l D cI cZ cO (g 161) (g 162) (g 163) (g 164) (g 165) (g 166) kn pl f ct hrel hok ht) gL_law_X7_stillIn rfl rfl (fun _ => rfl) zd_X7_stillIn rfl ⟨Nat.le_of_ble_eq_true rfl, Nat.le_of_ble_eq_true rfl⟩ rfl rfl (fun _ => lw_k_20_21) rfl (by decide) rfl (Nat.le_of_ble_eq_true rfl) hkc dL_law_391 (fun u ri hp => ?_)
  refine z_ieqT C hp.1 632 dL_law_394 (by decide) ?_
  exact kk ct kp od hr sl us ((z_si ct.1 0 101).2) pl sg kn u pf slf svf pd ⟨⟨hok, ht⟩, hkp, hod, hhr, hsl, hpl, hsg, hp.2, hmh, hmv, hpr⟩
set_option maxHeartbeats 4000000 in
set_option maxRecDepth 100000 in
theorem lwc_showsIn {p : Program} {l : Launch} {e : Env} {s : State} {m : MethodId} {below : List Frame} {meth : Method} {c : Code} {D : va_G} {cI cZ cO : ClassId} {A : Nat → Prop} {kc ks b L : Nat} {xs : Nat → Int32} {g : Nat → Nat} {i : Int} {Q : State → Prop} (C : z_C p s m #[Value.ref b] meth c D (z_T cI cZ cO) A cL_law 4 RL wsL_law ret) (hX : va_X b L xs s s.heap) (hbl : b < s.heap.size) (hbA : ¬ A b) (hL : L ≤ 1536) (hi : 0 ≤ i ∧ i + 3 ≤ (L : Int)) (hkc : kc ≤ room_1.cells ∧ ks ≤ room_1.slots)
    {ct : z_Ct} {kp od : Int} {hr : Int → z_Ct} {sl : Int → z_Ct} {us : Int → Int} {tr : z_Wv} {pl : Int} {sg : Int → Int} {kn : Int} {f pf slf svf pd : Int → Int} (I : lw_inv ct kp od hr sl us pl sg kn f pf slf svf pd)
    (kk : ∀ (ct : z_Ct) (kp od : Int) (hr : Int → z_Ct) (sl : Int → z_Ct) (us : Int → Int) (tr : z_Wv) (pl : Int) (sg : Int → Int) (kn : Int) (f pf slf svf pd : Int → Int), lw_inv ct kp od hr sl us pl sg kn f pf slf svf pd → z_V p l e room_1 s m #[Value.ref b] below meth c D A 4 kc ks Q (lw_W cI cZ cO g ct kp od hr sl us tr pl sg kn pl f pf slf svf pd).flatten 632 [(3, .int (z_I i)), (0, .ref b), (1, .ref (g 0)), (2, .ref (g 161))] []) :
    z_V p l e room_1 s m #[Value.ref b] below meth c D A 4 kc ks Q (lw_W cI cZ cO g ct kp od hr sl us tr pl sg kn pl f pf slf svf pd).flatten 399 [(3, .int (z_I i)), (0, .ref b), (1, .ref (g 0)), (2, .ref (g 161))] [] := by
  obtain ⟨⟨hok, ht⟩, hkp, hod, hhr, hsl, hpl, hsg, hrel, hmh, hmv, hpr⟩ := I
  refine z_aload_n C 2 dL_law_399 rfl ?_
  refine z_aload_n C 1 dL_law_400 rfl ?_
  refine z_iload_n C 0 dL_law_401 rfl ?_
  refine z_iconst C 1 dL_law_402 ?_
  refine z_iadd C dL_law_403 ?_
  refine z_sld C hX hbl hbA hL (by omega) dL_law_404 ?_
  refine z_callL C (lw_W cI cZ cO g ct kp od hr sl us tr pl sg kn pl f pf slf svf pd) (lw_W cI cZ cO g ct kp od hr sl us ((z_sh ct.1 tr (lw_x xs (i + 1))).2) pl sg kn pl f pf slf svf pd) [0, 1, 2, 16] [.int (z_I (lw_x xs (i + 1)))] [] (c_X6_showsIn l D cI cZ cO (g 0) (g 16) (g 123) (g 124) (g 125) (g 129) (g 1) (g 2) (g 3) (g 4) (g 5) (g 6) (g 7) (g 8) (g 9) (g 10) (g 11) (g 12) (g 13) (g 14) (g 15) ct (g 126) (g 127) (g 128) tr (lw_x xs (i + 1)) hok ht (lw_x_rng _ _)) gL_law_X6_showsIn rfl rfl rfl zd_X6_showsIn rfl ⟨Nat.le_of_ble_eq_true rfl, Nat.le_of_ble_eq_true rfl⟩ rfl rfl lw_k_0_1_2_16 (by decide) rfl (Nat.le_of_ble_eq_true rfl) hkc dL_law_405 ?_
  refine z_aload_n C 3 dL_law_408 rfl ?_
  refine z_aload_n C 1 dL_law_409 rfl ?_
  refine z_iload_n C 0 dL_law_410 rfl ?_
  refine z_iconst C 1 dL_law_411 ?_
  refine z_iadd C dL_law_412 ?_
  refine z_sld C hX hbl hbA hL (by omega) dL_law_413 ?_
  refine z_callLE C (lw_W cI cZ cO g ct kp od hr sl us ((z_sh ct.1 tr (lw_x xs (i + 1))).2) pl sg kn pl f pf slf svf pd) (fun u => (lw_W cI cZ cO g ct kp od hr sl us ((z_sh ct.1 tr (lw_x xs (i + 1))).2) pl sg kn pl u pf slf svf pd)) [20, 21] [.int (z_I (lw_x xs (i + 1)))] _ (c_X7_showsIn l D cI cZ cO (g 161) (g 162) (g 163) (g 164) (g 165) (g 166) kn pl f ct tr (lw_x xs (i + 1)) hrel hok ht (lw_x_rng _ _)) gL_law_X7_showsIn rfl rfl (fun _ => rfl) zd_X7_showsIn rfl ⟨Nat.le_of_ble_eq_true rfl, Nat.le_of_ble_eq_true rfl⟩ rfl rfl (fun _ => lw_k_20_21) rfl (by decide) rfl (Nat.le_of_ble_eq_true rfl) hkc dL_law_414 (fun u ri hp => ?_)
  refine z_ieqT C hp.1 632 dL_law_417 (by decide) ?_
  exact kk ct kp od hr sl us ((z_sh ct.1 tr (lw_x xs (i + 1))).2) pl sg kn u pf slf svf pd ⟨⟨hok, ht⟩, hkp, hod, hhr, hsl, hpl, hsg, hp.2, hmh, hmv, hpr⟩
set_option maxHeartbeats 4000000 in
set_option maxRecDepth 100000 in
theorem lwc_wrong {p : Program} {l : Launch} {e : Env} {s : State} {m : MethodId} {below : List Frame} {meth : Method} {c : Code} {D : va_G} {cI cZ cO : ClassId} {A : Nat → Prop} {kc ks b L : Nat} {xs : Nat → Int32} {g : Nat → Nat} {i : Int} {Q : State → Prop} (C : z_C p s m #[Value.ref b] meth c D (z_T cI cZ cO) A cL_law 4 RL wsL_law ret) (hX : va_X b L xs s s.heap) (hbl : b < s.heap.size) (hbA : ¬ A b) (hL : L ≤ 1536) (hi : 0 ≤ i ∧ i + 3 ≤ (L : Int)) (hkc : kc ≤ room_1.cells ∧ ks ≤ room_1.slots)
    {ct : z_Ct} {kp od : Int} {hr : Int → z_Ct} {sl : Int → z_Ct} {us : Int → Int} {tr : z_Wv} {pl : Int} {sg : Int → Int} {kn : Int} {f pf slf svf pd : Int → Int} (I : lw_inv ct kp od hr sl us pl sg kn f pf slf svf pd)
    (kk : ∀ (ct : z_Ct) (kp od : Int) (hr : Int → z_Ct) (sl : Int → z_Ct) (us : Int → Int) (tr : z_Wv) (pl : Int) (sg : Int → Int) (kn : Int) (f pf slf svf pd : Int → Int), lw_inv ct kp od hr sl us pl sg kn f pf slf svf pd → z_V p l e room_1 s m #[Value.ref b] below meth c D A 4 kc ks Q (lw_W cI cZ cO g ct kp od hr sl us tr pl sg kn pl f pf slf svf pd).flatten 632 [(3, .int (z_I i)), (0, .ref b), (1, .ref (g 0)), (2, .ref (g 161))] []) :
    z_V p l e room_1 s m #[Value.ref b] below meth c D A 4 kc ks Q (lw_W cI cZ cO g ct kp od hr sl us tr pl sg kn pl f pf slf svf pd).flatten 422 [(3, .int (z_I i)), (0, .ref b), (1, .ref (g 0)), (2, .ref (g 161))] [] := by
  obtain ⟨⟨hok, ht⟩, hkp, hod, hhr, hsl, hpl, hsg, hrel, hmh, hmv, hpr⟩ := I
  refine z_aload_n C 2 dL_law_422 rfl ?_
  refine z_aload_n C 1 dL_law_423 rfl ?_
  refine z_iload_n C 0 dL_law_424 rfl ?_
  refine z_iconst C 1 dL_law_425 ?_
  refine z_iadd C dL_law_426 ?_
  refine z_sld C hX hbl hbA hL (by omega) dL_law_427 ?_
  refine z_callL C (lw_W cI cZ cO g ct kp od hr sl us tr pl sg kn pl f pf slf svf pd) (lw_W cI cZ cO g ct kp od hr sl us tr pl sg kn pl f pf slf svf pd) [0, 1, 2] [.int (z_I (lw_x xs (i + 1)))] [] (c_X6_wrong l D cI cZ cO (g 0) (g 16) (g 123) (g 124) (g 125) (g 129) (g 1) (g 2) (g 3) (g 4) (g 5) (g 6) (g 7) (g 8) (g 9) (g 10) (g 11) (g 12) (g 13) (g 14) (g 15) ct (lw_x xs (i + 1)) hok ht (lw_x_rng _ _)) gL_law_X6_wrong rfl rfl rfl zd_X6_wrong rfl ⟨Nat.le_of_ble_eq_true rfl, Nat.le_of_ble_eq_true rfl⟩ rfl rfl lw_k_0_1_2 (by decide) rfl (Nat.le_of_ble_eq_true rfl) hkc dL_law_428 ?_
  refine z_aload_n C 3 dL_law_431 rfl ?_
  refine z_aload_n C 1 dL_law_432 rfl ?_
  refine z_iload_n C 0 dL_law_433 rfl ?_
  refine z_iconst C 1 dL_law_434 ?_
  refine z_iadd C dL_law_435 ?_
  refine z_sld C hX hbl hbA hL (by omega) dL_law_436 ?_
  refine z_callLE C (lw_W cI cZ cO g ct kp od hr sl us tr pl sg kn pl f pf slf svf pd) (fun u => (lw_W cI cZ cO g ct kp od hr sl us tr pl sg kn pl u pf slf svf pd)) [20, 21] [.int (z_I (lw_x xs (i + 1)))] _ (c_X7_wrong l D cI cZ cO (g 161) (g 162) (g 163) (g 164) (g 165) (g 166) kn pl f ct (lw_x xs (i + 1)) hrel hok ht (lw_x_rng _ _)) gL_law_X7_wrong rfl rfl (fun _ => rfl) zd_X7_wrong rfl ⟨Nat.le_of_ble_eq_true rfl, Nat.le_of_ble_eq_true rfl⟩ rfl rfl (fun _ => lw_k_20_21) rfl (by decide) rfl (Nat.le_of_ble_eq_true rfl) hkc dL_law_437 (fun u ri hp => ?_)
  refine z_ieqT C hp.1 632 dL_law_440 (by decide) ?_
  exact kk ct kp od hr sl us tr pl sg kn u pf slf svf pd ⟨⟨hok, ht⟩, hkp, hod, hhr, hsl, hpl, hsg, hp.2, hmh, hmv, hpr⟩
set_option maxHeartbeats 4000000 in
set_option maxRecDepth 100000 in
theorem lwc_safeGap {p : Program} {l : Launch} {e : Env} {s : State} {m : MethodId} {below : List Frame} {meth : Method} {c : Code} {D : va_G} {cI cZ cO : ClassId} {A : Nat → Prop} {kc ks b L : Nat} {xs : Nat → Int32} {g : Nat → Nat} {i : Int} {Q : State → Prop} (C : z_C p s m #[Value.ref b] meth c D (z_T cI cZ cO) A cL_law 4 RL wsL_law ret) (hX : va_X b L xs s s.heap) (hbl : b < s.heap.size) (hbA : ¬ A b) (hL : L ≤ 1536) (hi : 0 ≤ i ∧ i + 3 ≤ (L : Int)) (hkc : kc ≤ room_1.cells ∧ ks ≤ room_1.slots)
    {ct : z_Ct} {kp od : Int} {hr : Int → z_Ct} {sl : Int → z_Ct} {us : Int → Int} {tr : z_Wv} {pl : Int} {sg : Int → Int} {kn : Int} {f pf slf svf pd : Int → Int} (I : lw_inv ct kp od hr sl us pl sg kn f pf slf svf pd)
    (kk : ∀ (ct : z_Ct) (kp od : Int) (hr : Int → z_Ct) (sl : Int → z_Ct) (us : Int → Int) (tr : z_Wv) (pl : Int) (sg : Int → Int) (kn : Int) (f pf slf svf pd : Int → Int), lw_inv ct kp od hr sl us pl sg kn f pf slf svf pd → z_V p l e room_1 s m #[Value.ref b] below meth c D A 4 kc ks Q (lw_W cI cZ cO g ct kp od hr sl us tr pl sg kn pl f pf slf svf pd).flatten 632 [(3, .int (z_I i)), (0, .ref b), (1, .ref (g 0)), (2, .ref (g 161))] []) :
    z_V p l e room_1 s m #[Value.ref b] below meth c D A 4 kc ks Q (lw_W cI cZ cO g ct kp od hr sl us tr pl sg kn pl f pf slf svf pd).flatten 445 [(3, .int (z_I i)), (0, .ref b), (1, .ref (g 0)), (2, .ref (g 161))] [] := by
  obtain ⟨⟨hok, ht⟩, hkp, hod, hhr, hsl, hpl, hsg, hrel, hmh, hmv, hpr⟩ := I
  refine z_aload_n C 2 dL_law_445 rfl ?_
  refine z_callL C (lw_W cI cZ cO g ct kp od hr sl us tr pl sg kn pl f pf slf svf pd) (lw_W cI cZ cO g ct kp od hr sl us tr pl sg kn pl f pf slf svf pd) [0, 1, 2] [] [] (c_X6_safeGap l D cI cZ cO (g 0) (g 16) (g 123) (g 124) (g 125) (g 129) (g 1) (g 2) (g 3) (g 4) (g 5) (g 6) (g 7) (g 8) (g 9) (g 10) (g 11) (g 12) (g 13) (g 14) (g 15) ct hok ht) gL_law_X6_safeGap rfl rfl rfl zd_X6_safeGap rfl ⟨Nat.le_of_ble_eq_true rfl, Nat.le_of_ble_eq_true rfl⟩ rfl rfl lw_k_0_1_2 (by decide) rfl (Nat.le_of_ble_eq_true rfl) hkc dL_law_446 ?_
  refine z_aload_n C 3 dL_law_449 rfl ?_
  refine z_callLE C (lw_W cI cZ cO g ct kp od hr sl us tr pl sg kn pl f pf slf svf pd) (fun u => (lw_W cI cZ cO g ct kp od hr sl us tr pl sg kn pl u pf slf svf pd)) [20, 21] [] _ (c_X7_safeGap l D cI cZ cO (g 161) (g 162) (g 163) (g 164) (g 165) (g 166) kn pl f ct hrel hok ht) gL_law_X7_safeGap rfl rfl (fun _ => rfl) zd_X7_safeGap rfl ⟨Nat.le_of_ble_eq_true rfl, Nat.le_of_ble_eq_true rfl⟩ rfl rfl (fun _ => lw_k_20_21) rfl (by decide) rfl (Nat.le_of_ble_eq_true rfl) hkc dL_law_450 (fun u ri hp => ?_)
  refine z_ieqT C hp.1 632 dL_law_453 (by decide) ?_
  exact kk ct kp od hr sl us tr pl sg kn u pf slf svf pd ⟨⟨hok, ht⟩, hkp, hod, hhr, hsl, hpl, hsg, hp.2, hmh, hmv, hpr⟩
set_option maxHeartbeats 4000000 in
set_option maxRecDepth 100000 in
theorem lwc_toBlame {p : Program} {l : Launch} {e : Env} {s : State} {m : MethodId} {below : List Frame} {meth : Method} {c : Code} {D : va_G} {cI cZ cO : ClassId} {A : Nat → Prop} {kc ks b L : Nat} {xs : Nat → Int32} {g : Nat → Nat} {i : Int} {Q : State → Prop} (C : z_C p s m #[Value.ref b] meth c D (z_T cI cZ cO) A cL_law 4 RL wsL_law ret) (hX : va_X b L xs s s.heap) (hbl : b < s.heap.size) (hbA : ¬ A b) (hL : L ≤ 1536) (hi : 0 ≤ i ∧ i + 3 ≤ (L : Int)) (hkc : kc ≤ room_1.cells ∧ ks ≤ room_1.slots)
    {ct : z_Ct} {kp od : Int} {hr : Int → z_Ct} {sl : Int → z_Ct} {us : Int → Int} {tr : z_Wv} {pl : Int} {sg : Int → Int} {kn : Int} {f pf slf svf pd : Int → Int} (I : lw_inv ct kp od hr sl us pl sg kn f pf slf svf pd)
    (kk : ∀ (ct : z_Ct) (kp od : Int) (hr : Int → z_Ct) (sl : Int → z_Ct) (us : Int → Int) (tr : z_Wv) (pl : Int) (sg : Int → Int) (kn : Int) (f pf slf svf pd : Int → Int), lw_inv ct kp od hr sl us pl sg kn f pf slf svf pd → z_V p l e room_1 s m #[Value.ref b] below meth c D A 4 kc ks Q (lw_W cI cZ cO g ct kp od hr sl us tr pl sg kn pl f pf slf svf pd).flatten 632 [(3, .int (z_I i)), (0, .ref b), (1, .ref (g 0)), (2, .ref (g 161))] []) :
    z_V p l e room_1 s m #[Value.ref b] below meth c D A 4 kc ks Q (lw_W cI cZ cO g ct kp od hr sl us tr pl sg kn pl f pf slf svf pd).flatten 458 [(3, .int (z_I i)), (0, .ref b), (1, .ref (g 0)), (2, .ref (g 161))] [] := by
  obtain ⟨⟨hok, ht⟩, hkp, hod, hhr, hsl, hpl, hsg, hrel, hmh, hmv, hpr⟩ := I
  refine z_aload_n C 2 dL_law_458 rfl ?_
  refine z_aload_n C 1 dL_law_459 rfl ?_
  refine z_iload_n C 0 dL_law_460 rfl ?_
  refine z_iconst C 1 dL_law_461 ?_
  refine z_iadd C dL_law_462 ?_
  refine z_sld C hX hbl hbA hL (by omega) dL_law_463 ?_
  refine z_callL C (lw_W cI cZ cO g ct kp od hr sl us tr pl sg kn pl f pf slf svf pd) (lw_W cI cZ cO g ct kp od hr sl us tr pl sg kn pl f pf slf svf pd) [0, 1, 2] [.int (z_I (lw_x xs (i + 1)))] [] (c_X6_toBlame l D cI cZ cO (g 0) (g 16) (g 123) (g 124) (g 125) (g 129) (g 1) (g 2) (g 3) (g 4) (g 5) (g 6) (g 7) (g 8) (g 9) (g 10) (g 11) (g 12) (g 13) (g 14) (g 15) ct (lw_x xs (i + 1)) hok ht (lw_x_rng _ _)) gL_law_X6_toBlame rfl rfl rfl zd_X6_toBlame rfl ⟨Nat.le_of_ble_eq_true rfl, Nat.le_of_ble_eq_true rfl⟩ rfl rfl lw_k_0_1_2 (by decide) rfl (Nat.le_of_ble_eq_true rfl) hkc dL_law_464 ?_
  refine z_aload_n C 3 dL_law_467 rfl ?_
  refine z_aload_n C 1 dL_law_468 rfl ?_
  refine z_iload_n C 0 dL_law_469 rfl ?_
  refine z_iconst C 1 dL_law_470 ?_
  refine z_iadd C dL_law_471 ?_
  refine z_sld C hX hbl hbA hL (by omega) dL_law_472 ?_
  refine z_callLE C (lw_W cI cZ cO g ct kp od hr sl us tr pl sg kn pl f pf slf svf pd) (fun u => (lw_W cI cZ cO g ct kp od hr sl us tr pl sg kn pl u pf slf svf pd)) [20, 21] [.int (z_I (lw_x xs (i + 1)))] _ (c_X7_toBlame l D cI cZ cO (g 161) (g 162) (g 163) (g 164) (g 165) (g 166) kn pl f ct (lw_x xs (i + 1)) hrel hok ht (lw_x_rng _ _)) gL_law_X7_toBlame rfl rfl (fun _ => rfl) zd_X7_toBlame rfl ⟨Nat.le_of_ble_eq_true rfl, Nat.le_of_ble_eq_true rfl⟩ rfl rfl (fun _ => lw_k_20_21) rfl (by decide) rfl (Nat.le_of_ble_eq_true rfl) hkc dL_law_473 (fun u ri hp => ?_)
  refine z_ieqT C hp.1 632 dL_law_476 (by decide) ?_
  exact kk ct kp od hr sl us tr pl sg kn u pf slf svf pd ⟨⟨hok, ht⟩, hkp, hod, hhr, hsl, hpl, hsg, hp.2, hmh, hmv, hpr⟩
set_option maxHeartbeats 4000000 in
set_option maxRecDepth 100000 in
theorem lwc_put {p : Program} {l : Launch} {e : Env} {s : State} {m : MethodId} {below : List Frame} {meth : Method} {c : Code} {D : va_G} {cI cZ cO : ClassId} {A : Nat → Prop} {kc ks b L : Nat} {xs : Nat → Int32} {g : Nat → Nat} {i : Int} {Q : State → Prop} (C : z_C p s m #[Value.ref b] meth c D (z_T cI cZ cO) A cL_law 4 RL wsL_law ret) (hX : va_X b L xs s s.heap) (hbl : b < s.heap.size) (hbA : ¬ A b) (hL : L ≤ 1536) (hi : 0 ≤ i ∧ i + 3 ≤ (L : Int)) (hkc : kc ≤ room_1.cells ∧ ks ≤ room_1.slots)
    {ct : z_Ct} {kp od : Int} {hr : Int → z_Ct} {sl : Int → z_Ct} {us : Int → Int} {tr : z_Wv} {pl : Int} {sg : Int → Int} {kn : Int} {f pf slf svf pd : Int → Int} (I : lw_inv ct kp od hr sl us pl sg kn f pf slf svf pd)
    (kk : ∀ (ct : z_Ct) (kp od : Int) (hr : Int → z_Ct) (sl : Int → z_Ct) (us : Int → Int) (tr : z_Wv) (pl : Int) (sg : Int → Int) (kn : Int) (f pf slf svf pd : Int → Int), lw_inv ct kp od hr sl us pl sg kn f pf slf svf pd → z_V p l e room_1 s m #[Value.ref b] below meth c D A 4 kc ks Q (lw_W cI cZ cO g ct kp od hr sl us tr pl sg kn pl f pf slf svf pd).flatten 632 [(3, .int (z_I i)), (0, .ref b), (1, .ref (g 0)), (2, .ref (g 161))] []) :
    z_V p l e room_1 s m #[Value.ref b] below meth c D A 4 kc ks Q (lw_W cI cZ cO g ct kp od hr sl us tr pl sg kn pl f pf slf svf pd).flatten 481 [(3, .int (z_I i)), (0, .ref b), (1, .ref (g 0)), (2, .ref (g 161))] [] := by
  obtain ⟨⟨hok, ht⟩, hkp, hod, hhr, hsl, hpl, hsg, hrel, hmh, hmv, hpr⟩ := I
  refine z_aload_n C 2 dL_law_481 rfl ?_
  refine z_aload_n C 1 dL_law_482 rfl ?_
  refine z_iload_n C 0 dL_law_483 rfl ?_
  refine z_iconst C 1 dL_law_484 ?_
  refine z_iadd C dL_law_485 ?_
  refine z_sld C hX hbl hbA hL (by omega) dL_law_486 ?_
  refine z_i2l C (lw_un (z_I (lw_x xs (i + 1))).toInt64) dL_law_487 (lw_un_L _) ?_
  refine z_bipush C 32 dL_law_488 (by decide) ?_
  refine z_lshl C (lw_un (z_L (lw_un (z_I (lw_x xs (i + 1))).toInt64) <<< ((z_I 32).toInt64 &&& 63))) dL_law_490 (lw_un_L _) ?_
  refine z_aload_n C 1 dL_law_491 rfl ?_
  refine z_iload_n C 0 dL_law_492 rfl ?_
  refine z_iconst C 2 dL_law_493 ?_
  refine z_iadd C dL_law_494 ?_
  refine z_sld C hX hbl hbA hL (by omega) dL_law_495 ?_
  refine z_i2l C (lw_un (z_I (lw_x xs (i + 2))).toInt64) dL_law_496 (lw_un_L _) ?_
  refine z_ldc2 C 4294967295 zl_L_76 rfl dL_law_497 ?_
  refine z_land C (lw_un (z_L (lw_un (z_I (lw_x xs (i + 2))).toInt64) &&& z_L 4294967295)) dL_law_500 (lw_un_L _) ?_
  refine z_lor C (lw_k (lw_x xs (i + 1)) (lw_x xs (i + 2))) dL_law_501 (lw_un_L _) ?_
  refine z_callL C (lw_W cI cZ cO g ct kp od hr sl us tr pl sg kn pl f pf slf svf pd) (lw_W cI cZ cO g ct kp od hr sl us tr ((z_ap pl sg (lw_k (lw_x xs (i + 1)) (lw_x xs (i + 2)))).2.1) ((z_ap pl sg (lw_k (lw_x xs (i + 1)) (lw_x xs (i + 2)))).2.2) kn pl f pf slf svf pd) [0, 17] [.long (z_L (lw_k (lw_x xs (i + 1)) (lw_x xs (i + 2))))] [] (c_X6_put l D cI cZ cO (g 0) (g 16) (g 123) (g 124) (g 125) (g 129) (g 1) (g 130) pl sg (lw_k (lw_x xs (i + 1)) (lw_x xs (i + 2))) hpl hsg (lw_un_rng _)) gL_law_X6_put rfl rfl rfl zd_X6_put rfl ⟨Nat.le_of_ble_eq_true rfl, Nat.le_of_ble_eq_true rfl⟩ rfl rfl lw_k_0_17 (by decide) rfl (Nat.le_of_ble_eq_true rfl) hkc dL_law_502 ?_
  refine z_aload_n C 3 dL_law_505 rfl ?_
  refine z_aload_n C 1 dL_law_506 rfl ?_
  refine z_iload_n C 0 dL_law_507 rfl ?_
  refine z_iconst C 1 dL_law_508 ?_
  refine z_iadd C dL_law_509 ?_
  refine z_sld C hX hbl hbA hL (by omega) dL_law_510 ?_
  refine z_i2l C (lw_un (z_I (lw_x xs (i + 1))).toInt64) dL_law_511 (lw_un_L _) ?_
  refine z_bipush C 32 dL_law_512 (by decide) ?_
  refine z_lshl C (lw_un (z_L (lw_un (z_I (lw_x xs (i + 1))).toInt64) <<< ((z_I 32).toInt64 &&& 63))) dL_law_514 (lw_un_L _) ?_
  refine z_aload_n C 1 dL_law_515 rfl ?_
  refine z_iload_n C 0 dL_law_516 rfl ?_
  refine z_iconst C 2 dL_law_517 ?_
  refine z_iadd C dL_law_518 ?_
  refine z_sld C hX hbl hbA hL (by omega) dL_law_519 ?_
  refine z_i2l C (lw_un (z_I (lw_x xs (i + 2))).toInt64) dL_law_520 (lw_un_L _) ?_
  refine z_ldc2 C 4294967295 zl_L_76 rfl dL_law_521 ?_
  refine z_land C (lw_un (z_L (lw_un (z_I (lw_x xs (i + 2))).toInt64) &&& z_L 4294967295)) dL_law_524 (lw_un_L _) ?_
  refine z_lor C (lw_k (lw_x xs (i + 1)) (lw_x xs (i + 2))) dL_law_525 (lw_un_L _) ?_
  refine z_callLE C (lw_W cI cZ cO g ct kp od hr sl us tr ((z_ap pl sg (lw_k (lw_x xs (i + 1)) (lw_x xs (i + 2)))).2.1) ((z_ap pl sg (lw_k (lw_x xs (i + 1)) (lw_x xs (i + 2)))).2.2) kn pl f pf slf svf pd) (fun u => (lw_W cI cZ cO g ct kp od hr sl us tr ((z_ap pl sg (lw_k (lw_x xs (i + 1)) (lw_x xs (i + 2)))).2.1) ((z_ap pl sg (lw_k (lw_x xs (i + 1)) (lw_x xs (i + 2)))).2.2) kn ((z_ap pl sg (lw_k (lw_x xs (i + 1)) (lw_x xs (i + 2)))).2.1) f pf slf svf u)) [20, 25] [.long (z_L (lw_k (lw_x xs (i + 1)) (lw_x xs (i + 2))))] _ (c_X7_put l D cI cZ cO (g 161) (g 162) (g 163) (g 164) (g 165) (g 166) kn pl sg pd (lw_k (lw_x xs (i + 1)) (lw_x xs (i + 2))) hpl hsg hpr (lw_un_rng _)) gL_law_X7_put rfl rfl (fun _ => rfl) zd_X7_put rfl ⟨Nat.le_of_ble_eq_true rfl, Nat.le_of_ble_eq_true rfl⟩ rfl rfl (fun _ => lw_k_20_25) rfl (by decide) rfl (Nat.le_of_ble_eq_true rfl) hkc dL_law_526 (fun u ri hp => ?_)
  refine z_ieqT C hp.1 632 dL_law_529 (by decide) ?_
  exact kk ct kp od hr sl us tr ((z_ap pl sg (lw_k (lw_x xs (i + 1)) (lw_x xs (i + 2)))).2.1) ((z_ap pl sg (lw_k (lw_x xs (i + 1)) (lw_x xs (i + 2)))).2.2) kn f pf slf svf u ⟨⟨hok, ht⟩, hkp, hod, hhr, hsl, (lw_ap (lw_k (lw_x xs (i + 1)) (lw_x xs (i + 2))) hpl hsg).1, (lw_ap (lw_k (lw_x xs (i + 1)) (lw_x xs (i + 2))) hpl hsg).2, hrel, hmh, hmv, hp.2⟩
set_option maxHeartbeats 4000000 in
set_option maxRecDepth 100000 in
theorem lwc_wipe {p : Program} {l : Launch} {e : Env} {s : State} {m : MethodId} {below : List Frame} {meth : Method} {c : Code} {D : va_G} {cI cZ cO : ClassId} {A : Nat → Prop} {kc ks b L : Nat} {xs : Nat → Int32} {g : Nat → Nat} {i : Int} {Q : State → Prop} (C : z_C p s m #[Value.ref b] meth c D (z_T cI cZ cO) A cL_law 4 RL wsL_law ret) (hX : va_X b L xs s s.heap) (hbl : b < s.heap.size) (hbA : ¬ A b) (hL : L ≤ 1536) (hi : 0 ≤ i ∧ i + 3 ≤ (L : Int)) (hkc : kc ≤ room_1.cells ∧ ks ≤ room_1.slots)
    {ct : z_Ct} {kp od : Int} {hr : Int → z_Ct} {sl : Int → z_Ct} {us : Int → Int} {tr : z_Wv} {pl : Int} {sg : Int → Int} {kn : Int} {f pf slf svf pd : Int → Int} (I : lw_inv ct kp od hr sl us pl sg kn f pf slf svf pd)
    (kk : ∀ (ct : z_Ct) (kp od : Int) (hr : Int → z_Ct) (sl : Int → z_Ct) (us : Int → Int) (tr : z_Wv) (pl : Int) (sg : Int → Int) (kn : Int) (f pf slf svf pd : Int → Int), lw_inv ct kp od hr sl us pl sg kn f pf slf svf pd → z_V p l e room_1 s m #[Value.ref b] below meth c D A 4 kc ks Q (lw_W cI cZ cO g ct kp od hr sl us tr pl sg kn pl f pf slf svf pd).flatten 632 [(3, .int (z_I i)), (0, .ref b), (1, .ref (g 0)), (2, .ref (g 161))] []) :
    z_V p l e room_1 s m #[Value.ref b] below meth c D A 4 kc ks Q (lw_W cI cZ cO g ct kp od hr sl us tr pl sg kn pl f pf slf svf pd).flatten 534 [(3, .int (z_I i)), (0, .ref b), (1, .ref (g 0)), (2, .ref (g 161))] [] := by
  obtain ⟨⟨hok, ht⟩, hkp, hod, hhr, hsl, hpl, hsg, hrel, hmh, hmv, hpr⟩ := I
  refine z_aload_n C 2 dL_law_534 rfl ?_
  refine z_callL C (lw_W cI cZ cO g ct kp od hr sl us tr pl sg kn pl f pf slf svf pd) (lw_W cI cZ cO g ct kp od hr sl us tr 0 sg kn pl f pf slf svf pd) [0, 17] [] [] (c_X6_wipe l D cI cZ cO (g 0) (g 16) (g 123) (g 124) (g 125) (g 129) (g 1) (g 130) pl sg) gL_law_X6_wipe rfl rfl rfl zd_X6_wipe rfl ⟨Nat.le_of_ble_eq_true rfl, Nat.le_of_ble_eq_true rfl⟩ rfl rfl lw_k_0_17 (by decide) rfl (Nat.le_of_ble_eq_true rfl) hkc dL_law_535 ?_
  refine z_aload_n C 3 dL_law_538 rfl ?_
  refine z_callL C (lw_W cI cZ cO g ct kp od hr sl us tr 0 sg kn pl f pf slf svf pd) (lw_W cI cZ cO g ct kp od hr sl us tr 0 sg kn 0 f pf slf svf pd) [20, 25] [] _ (c_X7_wipe l D cI cZ cO (g 161) (g 162) (g 163) (g 164) (g 165) (g 166) kn pl sg pd) gL_law_X7_wipe rfl rfl rfl zd_X7_wipe rfl ⟨Nat.le_of_ble_eq_true rfl, Nat.le_of_ble_eq_true rfl⟩ rfl rfl lw_k_20_25 (by decide) rfl (Nat.le_of_ble_eq_true rfl) hkc dL_law_539 ?_
  refine z_ieqT C rfl 632 dL_law_542 (by decide) ?_
  exact kk ct kp od hr sl us tr 0 sg kn f pf slf svf pd ⟨⟨hok, ht⟩, hkp, hod, hhr, hsl, ⟨by omega, by omega⟩, (fun i i1 i2 => absurd i2 (by omega)), hrel, hmh, hmv, (fun i i1 i2 => absurd i2 (by omega))⟩
set_option maxHeartbeats 4000000 in
set_option maxRecDepth 100000 in
theorem lwc_fault {p : Program} {l : Launch} {e : Env} {s : State} {m : MethodId} {below : List Frame} {meth : Method} {c : Code} {D : va_G} {cI cZ cO : ClassId} {A : Nat → Prop} {kc ks b L : Nat} {xs : Nat → Int32} {g : Nat → Nat} {i : Int} {Q : State → Prop} (C : z_C p s m #[Value.ref b] meth c D (z_T cI cZ cO) A cL_law 4 RL wsL_law ret) (hX : va_X b L xs s s.heap) (hbl : b < s.heap.size) (hbA : ¬ A b) (hL : L ≤ 1536) (hi : 0 ≤ i ∧ i + 3 ≤ (L : Int)) (hkc : kc ≤ room_1.cells ∧ ks ≤ room_1.slots)
    {ct : z_Ct} {kp od : Int} {hr : Int → z_Ct} {sl : Int → z_Ct} {us : Int → Int} {tr : z_Wv} {pl : Int} {sg : Int → Int} {kn : Int} {f pf slf svf pd : Int → Int} (I : lw_inv ct kp od hr sl us pl sg kn f pf slf svf pd)
    (kk : ∀ (ct : z_Ct) (kp od : Int) (hr : Int → z_Ct) (sl : Int → z_Ct) (us : Int → Int) (tr : z_Wv) (pl : Int) (sg : Int → Int) (kn : Int) (f pf slf svf pd : Int → Int), lw_inv ct kp od hr sl us pl sg kn f pf slf svf pd → z_V p l e room_1 s m #[Value.ref b] below meth c D A 4 kc ks Q (lw_W cI cZ cO g ct kp od hr sl us tr pl sg kn pl f pf slf svf pd).flatten 632 [(3, .int (z_I i)), (0, .ref b), (1, .ref (g 0)), (2, .ref (g 161))] []) :
    z_V p l e room_1 s m #[Value.ref b] below meth c D A 4 kc ks Q (lw_W cI cZ cO g ct kp od hr sl us tr pl sg kn pl f pf slf svf pd).flatten 547 [(3, .int (z_I i)), (0, .ref b), (1, .ref (g 0)), (2, .ref (g 161))] [] := by
  obtain ⟨⟨hok, ht⟩, hkp, hod, hhr, hsl, hpl, hsg, hrel, hmh, hmv, hpr⟩ := I
  refine z_aload_n C 2 dL_law_547 rfl ?_
  refine z_callL C (lw_W cI cZ cO g ct kp od hr sl us tr pl sg kn pl f pf slf svf pd) (lw_W cI cZ cO g ct kp od hr sl us tr pl sg kn pl f pf slf svf pd) [0, 17] [] [] (c_X6_fault l D cI cZ cO (g 0) (g 16) (g 123) (g 124) (g 125) (g 129) (g 1) (g 130) pl sg hpl hsg) gL_law_X6_fault rfl rfl rfl zd_X6_fault rfl ⟨Nat.le_of_ble_eq_true rfl, Nat.le_of_ble_eq_true rfl⟩ rfl rfl lw_k_0_17 (by decide) rfl (Nat.le_of_ble_eq_true rfl) hkc dL_law_548 ?_
  refine z_aload_n C 3 dL_law_551 rfl ?_
  refine z_callL C (lw_W cI cZ cO g ct kp od hr sl us tr pl sg kn pl f pf slf svf pd) (lw_W cI cZ cO g ct kp od hr sl us tr pl sg kn pl f pf slf svf pd) [20, 25] [] _ (c_X7_fault l D cI cZ cO (g 161) (g 162) (g 163) (g 164) (g 165) (g 166) kn pl sg pd hpl hsg hpr) gL_law_X7_fault rfl rfl rfl zd_X7_fault rfl ⟨Nat.le_of_ble_eq_true rfl, Nat.le_of_ble_eq_true rfl⟩ rfl rfl lw_k_20_25 (by decide) rfl (Nat.le_of_ble_eq_true rfl) hkc dL_law_552 ?_
  refine z_ieqT C rfl 632 dL_law_555 (by decide) ?_
  exact kk ct kp od hr sl us tr pl sg kn f pf slf svf pd ⟨⟨hok, ht⟩, hkp, hod, hhr, hsl, hpl, hsg, hrel, hmh, hmv, hpr⟩
