theorem zl_L_76 : Cond.constantLong RL 76 (4294967295) ∈ wsL_law := List.mem_append_left _ (List.mem_append_left _ (List.mem_append_left _ (List.mem_append_left _ (List.mem_append_left _ (List.mem_append_left _ (List.mem_append_left _ (List.mem_append_left _ (List.mem_append_left _ (List.mem_append_left _ (List.mem_of_getElem? (i := 6) rfl))))))))))
theorem lw_inv_co {ct : z_Ct} {kp od : Int} {hr : Int → z_Ct} {sl : Int → z_Ct} {us : Int → Int} {pl : Int} {sg : Int → Int} {kn kn' : Int} {f f' pf pf' slf svf pd : Int → Int} (I : lw_inv ct kp od hr sl us pl sg kn f pf slf svf pd)
    (h1 : z_rel (if z_ff pl sg 0 0 pl.toNat = -6 then (z_co pl sg ct 0 0 pl.toNat).1 else ct) 0 f') (h2 : z_mh (if z_ff pl sg 0 0 pl.toNat = -6 then z_stK (z_co pl sg ct 0 0 pl.toNat).2 kp else kp) (if z_ff pl sg 0 0 pl.toNat = -6 then z_stO (z_co pl sg ct 0 0 pl.toNat).2 kp od else od) (if z_ff pl sg 0 0 pl.toNat = -6 then (z_uc hr ((od + kp) % 7) ct) else hr) kn' pf') :
    lw_inv (if z_ff pl sg 0 0 pl.toNat = -6 then (z_co pl sg ct 0 0 pl.toNat).1 else ct) (if z_ff pl sg 0 0 pl.toNat = -6 then z_stK (z_co pl sg ct 0 0 pl.toNat).2 kp else kp) (if z_ff pl sg 0 0 pl.toNat = -6 then z_stO (z_co pl sg ct 0 0 pl.toNat).2 kp od else od) (if z_ff pl sg 0 0 pl.toNat = -6 then (z_uc hr ((od + kp) % 7) ct) else hr) sl us (if z_ff pl sg 0 0 pl.toNat = -6 then 0 else pl) sg kn' f' pf' slf svf pd := by
  obtain ⟨⟨hok, ht⟩, hkp, hod, hhr, hsl, hpl, hsg, hrel, hmh, hmv, hpr⟩ := I
  by_cases hz : z_ff pl sg 0 0 pl.toNat = -6
  · rw [if_pos hz] at h1
    rw [if_pos hz, if_pos hz, if_pos hz] at h2
    rw [if_pos hz, if_pos hz, if_pos hz, if_pos hz, if_pos hz]
    have h9 := z_co_all hsg pl.toNat 0 ct 0 hok ht
    exact ⟨⟨h9.1, h9.2.1⟩, lw_stK hkp, lw_stO hod, lw_uc hhr ⟨hok, ht⟩ _, hsl, ⟨by omega, by omega⟩, (fun i i1 i2 => absurd i2 (by omega)), h1, h2, hmv, (fun i i1 i2 => absurd i2 (by omega))⟩
  · rw [if_neg hz] at h1
    rw [if_neg hz, if_neg hz, if_neg hz] at h2
    rw [if_neg hz, if_neg hz, if_neg hz, if_neg hz, if_neg hz]
    exact ⟨⟨hok, ht⟩, hkp, hod, hhr, hsl, hpl, hsg, h1, h2, hmv, hpr⟩
set_option maxHeartbeats 4000000 in
set_option maxRecDepth 100000 in
theorem lwc_set {p : Program} {l : Launch} {e : Env} {s : State} {m : MethodId} {below : List Frame} {meth : Method} {c : Code} {D : va_G} {cI cZ cO : ClassId} {A : Nat → Prop} {kc ks b L : Nat} {xs : Nat → Int32} {g : Nat → Nat} {i : Int} {Q : State → Prop} (C : z_C p s m #[Value.ref b] meth c D (z_T cI cZ cO) A cL_law 4 RL wsL_law ret) (hX : va_X b L xs s s.heap) (hbl : b < s.heap.size) (hbA : ¬ A b) (hL : L ≤ 1536) (hi : 0 ≤ i ∧ i + 3 ≤ (L : Int)) (hkc : kc ≤ room_1.cells ∧ ks ≤ room_1.slots)
    {ct : z_Ct} {kp od : Int} {hr : Int → z_Ct} {sl : Int → z_Ct} {us : Int → Int} {tr : z_Wv} {pl : Int} {sg : Int → Int} {kn : Int} {f pf slf svf pd : Int → Int} (I : lw_inv ct kp od hr sl us pl sg kn f pf slf svf pd)
    (kk : ∀ (ct : z_Ct) (kp od : Int) (hr : Int → z_Ct) (sl : Int → z_Ct) (us : Int → Int) (tr : z_Wv) (pl : Int) (sg : Int → Int) (kn : Int) (f pf slf svf pd : Int → Int), lw_inv ct kp od hr sl us pl sg kn f pf slf svf pd → z_V p l e room_1 s m #[Value.ref b] below meth c D A 4 kc ks Q (lw_W cI cZ cO g ct kp od hr sl us tr pl sg kn pl f pf slf svf pd).flatten 632 [(3, .int (z_I i)), (0, .ref b), (1, .ref (g 0)), (2, .ref (g 161))] []) :
    z_V p l e room_1 s m #[Value.ref b] below meth c D A 4 kc ks Q (lw_W cI cZ cO g ct kp od hr sl us tr pl sg kn pl f pf slf svf pd).flatten 136 [(3, .int (z_I i)), (0, .ref b), (1, .ref (g 0)), (2, .ref (g 161))] [] := by
  obtain ⟨⟨hok, ht⟩, hkp, hod, hhr, hsl, hpl, hsg, hrel, hmh, hmv, hpr⟩ := I
  refine z_aload_n C 2 dL_law_136 rfl ?_
  refine z_aload_n C 1 dL_law_137 rfl ?_
  refine z_iload_n C 0 dL_law_138 rfl ?_
  refine z_iconst C 1 dL_law_139 ?_
  refine z_iadd C dL_law_140 ?_
  refine z_sld C hX hbl hbA hL (by omega) dL_law_141 ?_
  refine z_aload_n C 1 dL_law_142 rfl ?_
  refine z_iload_n C 0 dL_law_143 rfl ?_
  refine z_iconst C 2 dL_law_144 ?_
  refine z_iadd C dL_law_145 ?_
  refine z_sld C hX hbl hbA hL (by omega) dL_law_146 ?_
  refine z_callL C (lw_W cI cZ cO g ct kp od hr sl us tr pl sg kn pl f pf slf svf pd) (lw_W cI cZ cO g ((z_chg ct (lw_x xs (i + 1)) (lw_x xs (i + 2))).1) (z_stK ((z_chg ct (lw_x xs (i + 1)) (lw_x xs (i + 2))).2) kp) (z_stO ((z_chg ct (lw_x xs (i + 1)) (lw_x xs (i + 2))).2) kp od) (z_uc hr ((od + kp) % 7) ct) sl us tr pl sg kn pl f pf slf svf pd) [0, 5, 6, 1, 2, 3, 4, 7, 8, 9, 10, 11, 12, 13] [.int (z_I (lw_x xs (i + 1))), .int (z_I (lw_x xs (i + 2)))] [] (c_X6_set l D cI cZ cO (g 0) (g 16) (g 123) (g 124) (g 125) (g 129) (g 17) (g 18) (g 19) (g 20) (g 21) (g 22) (g 23) (g 24) (g 25) (g 26) (g 27) (g 28) (g 29) (g 30) (g 31) (g 32) (g 33) (g 34) (g 35) (g 36) (g 37) (g 38) (g 39) (g 40) (g 41) (g 42) (g 43) (g 44) (g 45) (g 46) (g 47) (g 48) (g 49) (g 50) (g 51) (g 52) (g 53) (g 54) (g 55) (g 56) (g 57) (g 58) (g 59) (g 60) (g 61) (g 62) (g 63) (g 64) (g 65) (g 66) (g 67) (g 68) (g 69) (g 70) (g 71) (g 72) (g 73) (g 74) (g 75) (g 76) (g 77) (g 78) (g 79) (g 80) (g 81) (g 82) (g 83) (g 84) (g 85) (g 86) (g 87) (g 88) (g 89) (g 90) (g 91) (g 92) (g 93) (g 94) (g 95) (g 96) (g 97) (g 98) (g 99) (g 100) (g 101) (g 102) (g 103) (g 104) (g 105) (g 106) (g 107) (g 108) (g 109) (g 110) (g 111) (g 112) (g 113) (g 114) (g 115) (g 116) (g 117) (g 118) (g 119) (g 120) (g 121) (g 122) kp od hr (g 1) (g 2) (g 3) (g 4) (g 5) (g 6) (g 7) (g 8) (g 9) (g 10) (g 11) (g 12) (g 13) (g 14) (g 15) ct (lw_x xs (i + 1)) (lw_x xs (i + 2)) hok ht hkp hod (lw_x_rng _ _) (lw_x_rng _ _)) gL_law_X6_set rfl rfl rfl zd_X6_set rfl ⟨Nat.le_of_ble_eq_true rfl, Nat.le_of_ble_eq_true rfl⟩ rfl rfl rfl (by decide) rfl rfl rfl (Nat.le_of_ble_eq_true rfl) hkc dL_law_147 ?_
  refine z_aload_n C 3 dL_law_150 rfl ?_
  refine z_aload_n C 1 dL_law_151 rfl ?_
  refine z_iload_n C 0 dL_law_152 rfl ?_
  refine z_iconst C 1 dL_law_153 ?_
  refine z_iadd C dL_law_154 ?_
  refine z_sld C hX hbl hbA hL (by omega) dL_law_155 ?_
  refine z_aload_n C 1 dL_law_156 rfl ?_
  refine z_iload_n C 0 dL_law_157 rfl ?_
  refine z_iconst C 2 dL_law_158 ?_
  refine z_iadd C dL_law_159 ?_
  refine z_sld C hX hbl hbA hL (by omega) dL_law_160 ?_
  refine z_callLE C (lw_W cI cZ cO g ((z_chg ct (lw_x xs (i + 1)) (lw_x xs (i + 2))).1) (z_stK ((z_chg ct (lw_x xs (i + 1)) (lw_x xs (i + 2))).2) kp) (z_stO ((z_chg ct (lw_x xs (i + 1)) (lw_x xs (i + 2))).2) kp od) (z_uc hr ((od + kp) % 7) ct) sl us tr pl sg kn pl f pf slf svf pd) (fun u => (lw_W cI cZ cO g ((z_chg ct (lw_x xs (i + 1)) (lw_x xs (i + 2))).1) (z_stK ((z_chg ct (lw_x xs (i + 1)) (lw_x xs (i + 2))).2) kp) (z_stO ((z_chg ct (lw_x xs (i + 1)) (lw_x xs (i + 2))).2) kp od) (z_uc hr ((od + kp) % 7) ct) sl us tr pl sg u.2.2 pl u.1 u.2.1 slf svf pd)) [20, 21, 22] [.int (z_I (lw_x xs (i + 1))), .int (z_I (lw_x xs (i + 2)))] _ (c_X7_set l D cI cZ cO (g 161) (g 162) (g 163) (g 164) (g 165) (g 166) kn pl f pf ct kp od hr (lw_x xs (i + 1)) (lw_x xs (i + 2)) hrel hok ht hmh hkp hod (fun j h1 h2 => (hhr j h1 h2).1) (lw_x_rng _ _) (lw_x_rng _ _)) gL_law_X7_set rfl rfl (fun _ => rfl) zd_X7_set rfl ⟨Nat.le_of_ble_eq_true rfl, Nat.le_of_ble_eq_true rfl⟩ rfl rfl rfl (by decide) (fun _ => rfl) (fun _ => rfl) rfl (Nat.le_of_ble_eq_true rfl) hkc dL_law_161 (fun u ri hp => ?_)
  refine z_ieqT C hp.1 632 dL_law_164 (by decide) ?_
  exact kk ((z_chg ct (lw_x xs (i + 1)) (lw_x xs (i + 2))).1) (z_stK ((z_chg ct (lw_x xs (i + 1)) (lw_x xs (i + 2))).2) kp) (z_stO ((z_chg ct (lw_x xs (i + 1)) (lw_x xs (i + 2))).2) kp od) (z_uc hr ((od + kp) % 7) ct) sl us tr pl sg u.2.2 u.1 u.2.1 slf svf pd ⟨(let h9 := z_chg_ok hok ht (lw_x xs (i + 1)) (lw_x xs (i + 2)); ⟨h9.1, h9.2.1⟩), lw_stK hkp, lw_stO hod, lw_uc hhr ⟨hok, ht⟩ _, hsl, hpl, hsg, hp.2.1, hp.2.2, hmv, hpr⟩
set_option maxHeartbeats 4000000 in
set_option maxRecDepth 100000 in
theorem lwc_of {p : Program} {l : Launch} {e : Env} {s : State} {m : MethodId} {below : List Frame} {meth : Method} {c : Code} {D : va_G} {cI cZ cO : ClassId} {A : Nat → Prop} {kc ks b L : Nat} {xs : Nat → Int32} {g : Nat → Nat} {i : Int} {Q : State → Prop} (C : z_C p s m #[Value.ref b] meth c D (z_T cI cZ cO) A cL_law 4 RL wsL_law ret) (hX : va_X b L xs s s.heap) (hbl : b < s.heap.size) (hbA : ¬ A b) (hL : L ≤ 1536) (hi : 0 ≤ i ∧ i + 3 ≤ (L : Int)) (hkc : kc ≤ room_1.cells ∧ ks ≤ room_1.slots)
    {ct : z_Ct} {kp od : Int} {hr : Int → z_Ct} {sl : Int → z_Ct} {us : Int → Int} {tr : z_Wv} {pl : Int} {sg : Int → Int} {kn : Int} {f pf slf svf pd : Int → Int} (I : lw_inv ct kp od hr sl us pl sg kn f pf slf svf pd)
    (kk : ∀ (ct : z_Ct) (kp od : Int) (hr : Int → z_Ct) (sl : Int → z_Ct) (us : Int → Int) (tr : z_Wv) (pl : Int) (sg : Int → Int) (kn : Int) (f pf slf svf pd : Int → Int), lw_inv ct kp od hr sl us pl sg kn f pf slf svf pd → z_V p l e room_1 s m #[Value.ref b] below meth c D A 4 kc ks Q (lw_W cI cZ cO g ct kp od hr sl us tr pl sg kn pl f pf slf svf pd).flatten 632 [(3, .int (z_I i)), (0, .ref b), (1, .ref (g 0)), (2, .ref (g 161))] []) :
    z_V p l e room_1 s m #[Value.ref b] below meth c D A 4 kc ks Q (lw_W cI cZ cO g ct kp od hr sl us tr pl sg kn pl f pf slf svf pd).flatten 264 [(3, .int (z_I i)), (0, .ref b), (1, .ref (g 0)), (2, .ref (g 161))] [] := by
  obtain ⟨⟨hok, ht⟩, hkp, hod, hhr, hsl, hpl, hsg, hrel, hmh, hmv, hpr⟩ := I
  refine z_aload_n C 2 dL_law_264 rfl ?_
  refine z_aload_n C 1 dL_law_265 rfl ?_
  refine z_iload_n C 0 dL_law_266 rfl ?_
  refine z_iconst C 1 dL_law_267 ?_
  refine z_iadd C dL_law_268 ?_
  refine z_sld C hX hbl hbA hL (by omega) dL_law_269 ?_
  refine z_aload_n C 1 dL_law_270 rfl ?_
  refine z_iload_n C 0 dL_law_271 rfl ?_
  refine z_iconst C 2 dL_law_272 ?_
  refine z_iadd C dL_law_273 ?_
  refine z_sld C hX hbl hbA hL (by omega) dL_law_274 ?_
  refine z_callL C (lw_W cI cZ cO g ct kp od hr sl us tr pl sg kn pl f pf slf svf pd) (lw_W cI cZ cO g ct kp od hr sl us tr pl sg kn pl f pf slf svf pd) [0, 1, 2] [.int (z_I (lw_x xs (i + 1))), .int (z_I (lw_x xs (i + 2)))] [] (c_X6_of l D cI cZ cO (g 0) (g 16) (g 123) (g 124) (g 125) (g 129) (g 1) (g 2) (g 3) (g 4) (g 5) (g 6) (g 7) (g 8) (g 9) (g 10) (g 11) (g 12) (g 13) (g 14) (g 15) ct (lw_x xs (i + 1)) (lw_x xs (i + 2)) hok ht (lw_x_rng _ _) (lw_x_rng _ _)) gL_law_X6_of rfl rfl rfl zd_X6_of rfl ⟨Nat.le_of_ble_eq_true rfl, Nat.le_of_ble_eq_true rfl⟩ rfl rfl rfl (by decide) rfl rfl rfl (Nat.le_of_ble_eq_true rfl) hkc dL_law_275 ?_
  refine z_aload_n C 3 dL_law_278 rfl ?_
  refine z_aload_n C 1 dL_law_279 rfl ?_
  refine z_iload_n C 0 dL_law_280 rfl ?_
  refine z_iconst C 1 dL_law_281 ?_
  refine z_iadd C dL_law_282 ?_
  refine z_sld C hX hbl hbA hL (by omega) dL_law_283 ?_
  refine z_aload_n C 1 dL_law_284 rfl ?_
  refine z_iload_n C 0 dL_law_285 rfl ?_
  refine z_iconst C 2 dL_law_286 ?_
  refine z_iadd C dL_law_287 ?_
  refine z_sld C hX hbl hbA hL (by omega) dL_law_288 ?_
  refine z_callL C (lw_W cI cZ cO g ct kp od hr sl us tr pl sg kn pl f pf slf svf pd) (lw_W cI cZ cO g ct kp od hr sl us tr pl sg kn pl f pf slf svf pd) [20, 21] [.int (z_I (lw_x xs (i + 1))), .int (z_I (lw_x xs (i + 2)))] _ (c_X7_of l D cI cZ cO (g 161) (g 162) (g 163) (g 164) (g 165) (g 166) kn pl f ct (lw_x xs (i + 1)) (lw_x xs (i + 2)) hrel hok ht (lw_x_rng _ _) (lw_x_rng _ _)) gL_law_X7_of rfl rfl rfl zd_X7_of rfl ⟨Nat.le_of_ble_eq_true rfl, Nat.le_of_ble_eq_true rfl⟩ rfl rfl rfl (by decide) rfl rfl rfl (Nat.le_of_ble_eq_true rfl) hkc dL_law_289 ?_
  refine z_ieqT C rfl 632 dL_law_292 (by decide) ?_
  exact kk ct kp od hr sl us tr pl sg kn f pf slf svf pd ⟨⟨hok, ht⟩, hkp, hod, hhr, hsl, hpl, hsg, hrel, hmh, hmv, hpr⟩
