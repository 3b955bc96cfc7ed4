theorem zi_X5_copyFrom_X5 : ∀ w ∈ u_ws RX5 TX5 7, w ∈ wsX5_copyFrom := by decide +kernel
theorem zl_X5_copyFrom_15 : Cond.fieldLink RX5 15 "RippleCounts$Wave" "delays" "[I" ∈ wsX5_copyFrom := by decide +kernel
theorem zl_X5_copyFrom_19 : Cond.fieldLink RX5 19 "RippleCounts$Wave" "done" "[I" ∈ wsX5_copyFrom := by decide +kernel
theorem zl_X5_copyFrom_22 : Cond.fieldLink RX5 22 "RippleCounts$Wave" "due" "[I" ∈ wsX5_copyFrom := by decide +kernel
theorem zl_X5_copyFrom_31 : Cond.fieldLink RX5 31 "RippleCounts$Wave" "time" "I" ∈ wsX5_copyFrom := by decide +kernel
theorem zl_X5_copyFrom_34 : Cond.fieldLink RX5 34 "RippleCounts$Wave" "shows" "I" ∈ wsX5_copyFrom := by decide +kernel
theorem zl_X5_copyFrom_37 : Cond.fieldLink RX5 37 "RippleCounts$Wave" "onTheirWay" "I" ∈ wsX5_copyFrom := by decide +kernel
theorem zl_X5_copyFrom_40i : Cond.initialized "java/lang/System" ∈ wsX5_copyFrom := by decide +kernel
theorem zl_X5_copyFrom_40k : Cond.methodLink RX5 40 arraycopyName ∈ wsX5_copyFrom := by decide +kernel
theorem zl_X5_copyFrom_40n : Cond.native arraycopyName ∈ wsX5_copyFrom := by decide +kernel
theorem zl_X5_copyFrom_40s : Cond.static arraycopyName ∈ wsX5_copyFrom := by decide +kernel
theorem zl_X5_copyFrom_9 : Cond.fieldLink RX5 9 "RippleCounts$Wave" "stages" "I" ∈ wsX5_copyFrom := by decide +kernel
theorem zd_X5_copyFrom : yX5_copyFrom.cls ≠ "java/lang/invoke/MethodHandle" ∧ yX5_copyFrom.cls ≠ "java/lang/invoke/VarHandle" ∧ (parseMethodDescriptor yX5_copyFrom.desc).map (fun d => d.parameters.length) = some 1 := by decide +kernel
set_option maxHeartbeats 4000000 in
set_option maxRecDepth 100000 in
theorem c_X5_copyFrom (l : Launch) (D : va_G) (cI cZ cO : ClassId) (hW aD aN aU : Nat) (t st sh ow : Int) (dl dn du : Int → Int) (hWo aDo aNo aUo : Nat) (to sto sho owo : Int) (dlo dno duo : Int → Int) : z_Mv l yX5_copyFrom wsX5_copyFrom 1 40 D (z_T cI cZ cO) [.ref hW, .ref hWo] ([(hW, .inr (5, [.int (z_I t), .int (z_I st), .int (z_I sh), .int (z_I ow), .ref aD, .ref aN, .ref aU])), (aD, z_ai cI 5 dl), (aN, z_ai cI 5 dn), (aU, z_ai cI 105 du), (hWo, .inr (5, [.int (z_I to), .int (z_I sto), .int (z_I sho), .int (z_I owo), .ref aDo, .ref aNo, .ref aUo])), (aDo, z_ai cI 5 dlo), (aNo, z_ai cI 5 dno), (aUo, z_ai cI 105 duo)]) ([(hW, .inr (5, [.int (z_I to), .int (z_I sto), .int (z_I sho), .int (z_I owo), .ref aD, .ref aN, .ref aU])), (aD, z_ai cI 5 dlo), (aN, z_ai cI 5 dno), (aU, z_ai cI 105 duo), (hWo, .inr (5, [.int (z_I to), .int (z_I sto), .int (z_I sho), .int (z_I owo), .ref aDo, .ref aNo, .ref aUo])), (aDo, z_ai cI 5 dlo), (aNo, z_ai cI 5 dno), (aUo, z_ai cI 105 duo)]) := by
  refine z_Mv_of (cc := cX5_copyFrom) (nL := 2) (ret := none) (by decide +kernel) rfl (Nat.le_of_ble_eq_true rfl) ?_
  intro p e s m args below meth c A Q C hQ
  change z_V p l e { frames := 1, cells := 0, slots := 0, locals := 40 } s m args below meth c D A 2 0 0 Q ([(hW, .inr (5, [.int (z_I t), .int (z_I st), .int (z_I sh), .int (z_I ow), .ref aD, .ref aN, .ref aU])), (aD, z_ai cI 5 dl), (aN, z_ai cI 5 dn), (aU, z_ai cI 105 du), (hWo, .inr (5, [.int (z_I to), .int (z_I sto), .int (z_I sho), .int (z_I owo), .ref aDo, .ref aNo, .ref aUo])), (aDo, z_ai cI 5 dlo), (aNo, z_ai cI 5 dno), (aUo, z_ai cI 105 duo)]) 0 [(0, .ref hW), (1, .ref hWo)] []
  refine z_aload_n C 0 dX5_copyFrom_0 rfl ?_
  refine z_aload_n C 1 dX5_copyFrom_1 rfl ?_
  refine z_get C 4 0 zi_X5_copyFrom_X5 rfl rfl (by decide) zl_X5_copyFrom_31 rfl rfl dX5_copyFrom_2 ?_
  refine z_put C 0 0 ([(hW, .inr (5, [.int (z_I to), .int (z_I st), .int (z_I sh), .int (z_I ow), .ref aD, .ref aN, .ref aU])), (aD, z_ai cI 5 dl), (aN, z_ai cI 5 dn), (aU, z_ai cI 105 du), (hWo, .inr (5, [.int (z_I to), .int (z_I sto), .int (z_I sho), .int (z_I owo), .ref aDo, .ref aNo, .ref aUo])), (aDo, z_ai cI 5 dlo), (aNo, z_ai cI 5 dno), (aUo, z_ai cI 105 duo)]) zi_X5_copyFrom_X5 tyX5_ok nmX5 rfl rfl (by decide) zl_X5_copyFrom_31 rfl rfl rfl rfl (Nat.le_of_ble_eq_true rfl) rfl dX5_copyFrom_5 ?_
  refine z_aload_n C 0 dX5_copyFrom_8 rfl ?_
  refine z_aload_n C 1 dX5_copyFrom_9 rfl ?_
  refine z_get C 4 1 zi_X5_copyFrom_X5 rfl rfl (by decide) zl_X5_copyFrom_9 rfl rfl dX5_copyFrom_10 ?_
  refine z_put C 0 1 ([(hW, .inr (5, [.int (z_I to), .int (z_I sto), .int (z_I sh), .int (z_I ow), .ref aD, .ref aN, .ref aU])), (aD, z_ai cI 5 dl), (aN, z_ai cI 5 dn), (aU, z_ai cI 105 du), (hWo, .inr (5, [.int (z_I to), .int (z_I sto), .int (z_I sho), .int (z_I owo), .ref aDo, .ref aNo, .ref aUo])), (aDo, z_ai cI 5 dlo), (aNo, z_ai cI 5 dno), (aUo, z_ai cI 105 duo)]) zi_X5_copyFrom_X5 tyX5_ok nmX5 rfl rfl (by decide) zl_X5_copyFrom_9 rfl rfl rfl rfl (Nat.le_of_ble_eq_true rfl) rfl dX5_copyFrom_13 ?_
  refine z_aload_n C 0 dX5_copyFrom_16 rfl ?_
  refine z_aload_n C 1 dX5_copyFrom_17 rfl ?_
  refine z_get C 4 2 zi_X5_copyFrom_X5 rfl rfl (by decide) zl_X5_copyFrom_34 rfl rfl dX5_copyFrom_18 ?_
  refine z_put C 0 2 ([(hW, .inr (5, [.int (z_I to), .int (z_I sto), .int (z_I sho), .int (z_I ow), .ref aD, .ref aN, .ref aU])), (aD, z_ai cI 5 dl), (aN, z_ai cI 5 dn), (aU, z_ai cI 105 du), (hWo, .inr (5, [.int (z_I to), .int (z_I sto), .int (z_I sho), .int (z_I owo), .ref aDo, .ref aNo, .ref aUo])), (aDo, z_ai cI 5 dlo), (aNo, z_ai cI 5 dno), (aUo, z_ai cI 105 duo)]) zi_X5_copyFrom_X5 tyX5_ok nmX5 rfl rfl (by decide) zl_X5_copyFrom_34 rfl rfl rfl rfl (Nat.le_of_ble_eq_true rfl) rfl dX5_copyFrom_21 ?_
  refine z_aload_n C 0 dX5_copyFrom_24 rfl ?_
  refine z_aload_n C 1 dX5_copyFrom_25 rfl ?_
  refine z_get C 4 3 zi_X5_copyFrom_X5 rfl rfl (by decide) zl_X5_copyFrom_37 rfl rfl dX5_copyFrom_26 ?_
  refine z_put C 0 3 ([(hW, .inr (5, [.int (z_I to), .int (z_I sto), .int (z_I sho), .int (z_I owo), .ref aD, .ref aN, .ref aU])), (aD, z_ai cI 5 dl), (aN, z_ai cI 5 dn), (aU, z_ai cI 105 du), (hWo, .inr (5, [.int (z_I to), .int (z_I sto), .int (z_I sho), .int (z_I owo), .ref aDo, .ref aNo, .ref aUo])), (aDo, z_ai cI 5 dlo), (aNo, z_ai cI 5 dno), (aUo, z_ai cI 105 duo)]) zi_X5_copyFrom_X5 tyX5_ok nmX5 rfl rfl (by decide) zl_X5_copyFrom_37 rfl rfl rfl rfl (Nat.le_of_ble_eq_true rfl) rfl dX5_copyFrom_29 ?_
  refine z_aload_n C 1 dX5_copyFrom_32 rfl ?_
  refine z_get C 4 4 zi_X5_copyFrom_X5 rfl rfl (by decide) zl_X5_copyFrom_15 rfl rfl dX5_copyFrom_33 ?_
  refine z_iconst C 0 dX5_copyFrom_36 ?_
  refine z_aload_n C 0 dX5_copyFrom_37 rfl ?_
  refine z_get C 0 4 zi_X5_copyFrom_X5 rfl rfl (by decide) zl_X5_copyFrom_15 rfl rfl dX5_copyFrom_38 ?_
  refine z_iconst C 0 dX5_copyFrom_41 ?_
  refine z_iconst C 5 dX5_copyFrom_42 ?_
  refine z_copy C 5 1 0 [(hW, .inr (5, [.int (z_I to), .int (z_I sto), .int (z_I sho), .int (z_I owo), .ref aD, .ref aN, .ref aU])), (aD, z_ai cI 5 (z_cp dlo dl 0 0 5)), (aN, z_ai cI 5 dn), (aU, z_ai cI 105 du), (hWo, .inr (5, [.int (z_I to), .int (z_I sto), .int (z_I sho), .int (z_I owo), .ref aDo, .ref aNo, .ref aUo])), (aDo, z_ai cI 5 dlo), (aNo, z_ai cI 5 dno), (aUo, z_ai cI 105 duo)] .int zl_X5_copyFrom_40k zl_X5_copyFrom_40n zl_X5_copyFrom_40s zl_X5_copyFrom_40i rfl rfl rfl rfl (by omega) (fun _ _ _ => rfl) (by decide) rfl dX5_copyFrom_43 ?_
  refine z_arr (c := c) 1 dlo [(hW, .inr (5, [.int (z_I to), .int (z_I sto), .int (z_I sho), .int (z_I owo), .ref aD, .ref aN, .ref aU])), (aD, z_ai cI 5 dlo), (aN, z_ai cI 5 dn), (aU, z_ai cI 105 du), (hWo, .inr (5, [.int (z_I to), .int (z_I sto), .int (z_I sho), .int (z_I owo), .ref aDo, .ref aNo, .ref aUo])), (aDo, z_ai cI 5 dlo), (aNo, z_ai cI 5 dno), (aUo, z_ai cI 105 duo)] rfl (fun i h1 h2 => z_cp_full h1 (by omega)) rfl ?_
  refine z_aload_n C 1 dX5_copyFrom_46 rfl ?_
  refine z_get C 4 5 zi_X5_copyFrom_X5 rfl rfl (by decide) zl_X5_copyFrom_19 rfl rfl dX5_copyFrom_47 ?_
  refine z_iconst C 0 dX5_copyFrom_50 ?_
  refine z_aload_n C 0 dX5_copyFrom_51 rfl ?_
  refine z_get C 0 5 zi_X5_copyFrom_X5 rfl rfl (by decide) zl_X5_copyFrom_19 rfl rfl dX5_copyFrom_52 ?_
  refine z_iconst C 0 dX5_copyFrom_55 ?_
  refine z_iconst C 5 dX5_copyFrom_56 ?_
  refine z_copy C 6 2 0 [(hW, .inr (5, [.int (z_I to), .int (z_I sto), .int (z_I sho), .int (z_I owo), .ref aD, .ref aN, .ref aU])), (aD, z_ai cI 5 dlo), (aN, z_ai cI 5 (z_cp dno dn 0 0 5)), (aU, z_ai cI 105 du), (hWo, .inr (5, [.int (z_I to), .int (z_I sto), .int (z_I sho), .int (z_I owo), .ref aDo, .ref aNo, .ref aUo])), (aDo, z_ai cI 5 dlo), (aNo, z_ai cI 5 dno), (aUo, z_ai cI 105 duo)] .int zl_X5_copyFrom_40k zl_X5_copyFrom_40n zl_X5_copyFrom_40s zl_X5_copyFrom_40i rfl rfl rfl rfl (by omega) (fun _ _ _ => rfl) (by decide) rfl dX5_copyFrom_57 ?_
  refine z_arr (c := c) 2 dno [(hW, .inr (5, [.int (z_I to), .int (z_I sto), .int (z_I sho), .int (z_I owo), .ref aD, .ref aN, .ref aU])), (aD, z_ai cI 5 dlo), (aN, z_ai cI 5 dno), (aU, z_ai cI 105 du), (hWo, .inr (5, [.int (z_I to), .int (z_I sto), .int (z_I sho), .int (z_I owo), .ref aDo, .ref aNo, .ref aUo])), (aDo, z_ai cI 5 dlo), (aNo, z_ai cI 5 dno), (aUo, z_ai cI 105 duo)] rfl (fun i h1 h2 => z_cp_full h1 (by omega)) rfl ?_
  refine z_aload_n C 1 dX5_copyFrom_60 rfl ?_
  refine z_get C 4 6 zi_X5_copyFrom_X5 rfl rfl (by decide) zl_X5_copyFrom_22 rfl rfl dX5_copyFrom_61 ?_
  refine z_iconst C 0 dX5_copyFrom_64 ?_
  refine z_aload_n C 0 dX5_copyFrom_65 rfl ?_
  refine z_get C 0 6 zi_X5_copyFrom_X5 rfl rfl (by decide) zl_X5_copyFrom_22 rfl rfl dX5_copyFrom_66 ?_
  refine z_iconst C 0 dX5_copyFrom_69 ?_
  refine z_bipush C 105 dX5_copyFrom_70 (by decide) ?_
  refine z_copy C 7 3 0 [(hW, .inr (5, [.int (z_I to), .int (z_I sto), .int (z_I sho), .int (z_I owo), .ref aD, .ref aN, .ref aU])), (aD, z_ai cI 5 dlo), (aN, z_ai cI 5 dno), (aU, z_ai cI 105 (z_cp duo du 0 0 105)), (hWo, .inr (5, [.int (z_I to), .int (z_I sto), .int (z_I sho), .int (z_I owo), .ref aDo, .ref aNo, .ref aUo])), (aDo, z_ai cI 5 dlo), (aNo, z_ai cI 5 dno), (aUo, z_ai cI 105 duo)] .int zl_X5_copyFrom_40k zl_X5_copyFrom_40n zl_X5_copyFrom_40s zl_X5_copyFrom_40i rfl rfl rfl rfl (by omega) (fun _ _ _ => rfl) (by decide) rfl dX5_copyFrom_72 ?_
  refine z_arr (c := c) 3 duo [(hW, .inr (5, [.int (z_I to), .int (z_I sto), .int (z_I sho), .int (z_I owo), .ref aD, .ref aN, .ref aU])), (aD, z_ai cI 5 dlo), (aN, z_ai cI 5 dno), (aU, z_ai cI 105 duo), (hWo, .inr (5, [.int (z_I to), .int (z_I sto), .int (z_I sho), .int (z_I owo), .ref aDo, .ref aNo, .ref aUo])), (aDo, z_ai cI 5 dlo), (aNo, z_ai cI 5 dno), (aUo, z_ai cI 105 duo)] rfl (fun i h1 h2 => z_cp_full h1 (by omega)) rfl ?_
  exact z_vret C hQ rfl dX5_copyFrom_75
theorem zi_X5_beginAnew_X5 : ∀ w ∈ u_ws RX5 TX5 7, w ∈ wsX5_beginAnew := by decide +kernel
theorem zl_X5_beginAnew_19 : Cond.fieldLink RX5 19 "RippleCounts$Wave" "done" "[I" ∈ wsX5_beginAnew := by decide +kernel
theorem zl_X5_beginAnew_22 : Cond.fieldLink RX5 22 "RippleCounts$Wave" "due" "[I" ∈ wsX5_beginAnew := by decide +kernel
theorem zl_X5_beginAnew_34 : Cond.fieldLink RX5 34 "RippleCounts$Wave" "shows" "I" ∈ wsX5_beginAnew := by decide +kernel
theorem zl_X5_beginAnew_37 : Cond.fieldLink RX5 37 "RippleCounts$Wave" "onTheirWay" "I" ∈ wsX5_beginAnew := by decide +kernel
theorem zl_X5_beginAnew_9 : Cond.fieldLink RX5 9 "RippleCounts$Wave" "stages" "I" ∈ wsX5_beginAnew := by decide +kernel
theorem zd_X5_beginAnew : yX5_beginAnew.cls ≠ "java/lang/invoke/MethodHandle" ∧ yX5_beginAnew.cls ≠ "java/lang/invoke/VarHandle" ∧ (parseMethodDescriptor yX5_beginAnew.desc).map (fun d => d.parameters.length) = some 1 := by decide +kernel
set_option maxHeartbeats 4000000 in
set_option maxRecDepth 100000 in
theorem c_X5_beginAnew (l : Launch) (D : va_G) (cI cZ cO : ClassId) (hW aD aN aU : Nat) (t st sh ow : Int) (dl dn du : Int → Int) (k : Int) : z_Mv l yX5_beginAnew wsX5_beginAnew 1 23 D (z_T cI cZ cO) [.ref hW, .int (z_I k)] ([(hW, .inr (5, [.int (z_I t), .int (z_I st), .int (z_I sh), .int (z_I ow), .ref aD, .ref aN, .ref aU])), (aD, z_ai cI 5 dl), (aN, z_ai cI 5 dn), (aU, z_ai cI 105 du)]) ([(hW, .inr (5, [.int (z_I t), .int (z_I k), .int (z_I 0), .int (z_I 0), .ref aD, .ref aN, .ref aU])), (aD, z_ai cI 5 dl), (aN, z_ai cI 5 (fun _ => 0)), (aU, z_ai cI 105 (fun _ => 0))]) := by
  refine z_Mv_of (cc := cX5_beginAnew) (nL := 2) (ret := none) (by decide +kernel) rfl (Nat.le_of_ble_eq_true rfl) ?_
  intro p e s m args below meth c A Q C hQ
  change z_V p l e { frames := 1, cells := 0, slots := 0, locals := 23 } s m args below meth c D A 2 0 0 Q ([(hW, .inr (5, [.int (z_I t), .int (z_I st), .int (z_I sh), .int (z_I ow), .ref aD, .ref aN, .ref aU])), (aD, z_ai cI 5 dl), (aN, z_ai cI 5 dn), (aU, z_ai cI 105 du)]) 0 [(0, .ref hW), (1, .int (z_I k))] []
  refine z_aload_n C 0 dX5_beginAnew_0 rfl ?_
  refine z_iload_n C 1 dX5_beginAnew_1 rfl ?_
  refine z_put C 0 1 ([(hW, .inr (5, [.int (z_I t), .int (z_I k), .int (z_I sh), .int (z_I ow), .ref aD, .ref aN, .ref aU])), (aD, z_ai cI 5 dl), (aN, z_ai cI 5 dn), (aU, z_ai cI 105 du)]) zi_X5_beginAnew_X5 tyX5_ok nmX5 rfl rfl (by decide) zl_X5_beginAnew_9 rfl rfl rfl rfl (Nat.le_of_ble_eq_true rfl) rfl dX5_beginAnew_2 ?_
  refine z_aload_n C 0 dX5_beginAnew_5 rfl ?_
  refine z_iconst C 0 dX5_beginAnew_6 ?_
  refine z_put C 0 2 ([(hW, .inr (5, [.int (z_I t), .int (z_I k), .int (z_I 0), .int (z_I ow), .ref aD, .ref aN, .ref aU])), (aD, z_ai cI 5 dl), (aN, z_ai cI 5 dn), (aU, z_ai cI 105 du)]) zi_X5_beginAnew_X5 tyX5_ok nmX5 rfl rfl (by decide) zl_X5_beginAnew_34 rfl rfl rfl rfl (Nat.le_of_ble_eq_true rfl) rfl dX5_beginAnew_7 ?_
  refine z_aload_n C 0 dX5_beginAnew_10 rfl ?_
  refine z_iconst C 0 dX5_beginAnew_11 ?_
  refine z_put C 0 3 ([(hW, .inr (5, [.int (z_I t), .int (z_I k), .int (z_I 0), .int (z_I 0), .ref aD, .ref aN, .ref aU])), (aD, z_ai cI 5 dl), (aN, z_ai cI 5 dn), (aU, z_ai cI 105 du)]) zi_X5_beginAnew_X5 tyX5_ok nmX5 rfl rfl (by decide) zl_X5_beginAnew_37 rfl rfl rfl rfl (Nat.le_of_ble_eq_true rfl) rfl dX5_beginAnew_12 ?_
  refine z_aload_n C 0 dX5_beginAnew_15 rfl ?_
  refine z_get C 0 5 zi_X5_beginAnew_X5 rfl rfl (by decide) zl_X5_beginAnew_19 rfl rfl dX5_beginAnew_16 ?_
  refine z_iconst C 0 dX5_beginAnew_19 ?_
  refine z_callSv C [2] [(hW, .inr (5, [.int (z_I t), .int (z_I k), .int (z_I 0), .int (z_I 0), .ref aD, .ref aN, .ref aU])), (aD, z_ai cI 5 dl), (aN, z_ai cI 5 (fun _ => 0)), (aU, z_ai cI 105 du)] [.ref aN, .int (z_I 0)] [] (c_J7_fill_53178_5 l D cI cZ cO aN dn 0 ) gX5_beginAnew_J7_fill_53178 rfl zd_J7_fill_53178 rfl (by decide) rfl (by decide) rfl rfl rfl (Nat.le_of_ble_eq_true rfl) (by decide) dX5_beginAnew_20 ?_
  refine z_aload_n C 0 dX5_beginAnew_23 rfl ?_
  refine z_get C 0 6 zi_X5_beginAnew_X5 rfl rfl (by decide) zl_X5_beginAnew_22 rfl rfl dX5_beginAnew_24 ?_
  refine z_iconst C 0 dX5_beginAnew_27 ?_
  refine z_callSv C [3] [(hW, .inr (5, [.int (z_I t), .int (z_I k), .int (z_I 0), .int (z_I 0), .ref aD, .ref aN, .ref aU])), (aD, z_ai cI 5 dl), (aN, z_ai cI 5 (fun _ => 0)), (aU, z_ai cI 105 (fun _ => 0))] [.ref aU, .int (z_I 0)] [] (c_J7_fill_53178_105 l D cI cZ cO aU du 0 ) gX5_beginAnew_J7_fill_53178 rfl zd_J7_fill_53178 rfl (by decide) rfl (by decide) rfl rfl rfl (Nat.le_of_ble_eq_true rfl) (by decide) dX5_beginAnew_28 ?_
  exact z_vret C hQ rfl dX5_beginAnew_31
theorem zi_X3_copyFrom_X3 : ∀ w ∈ u_ws RX3 TX3 5, w ∈ wsX3_copyFrom := by decide +kernel
theorem zl_X3_copyFrom_15 : Cond.fieldLink RX3 15 "RippleCounts$Readings" "times" "[I" ∈ wsX3_copyFrom := by decide +kernel
theorem zl_X3_copyFrom_18 : Cond.fieldLink RX3 18 "RippleCounts$Readings" "counts" "[I" ∈ wsX3_copyFrom := by decide +kernel
theorem zl_X3_copyFrom_21 : Cond.fieldLink RX3 21 "RippleCounts$Readings" "latched" "[I" ∈ wsX3_copyFrom := by decide +kernel
theorem zl_X3_copyFrom_24 : Cond.fieldLink RX3 24 "RippleCounts$Readings" "size" "I" ∈ wsX3_copyFrom := by decide +kernel
theorem zl_X3_copyFrom_28i : Cond.initialized "java/lang/System" ∈ wsX3_copyFrom := by decide +kernel
theorem zl_X3_copyFrom_28k : Cond.methodLink RX3 28 arraycopyName ∈ wsX3_copyFrom := by decide +kernel
theorem zl_X3_copyFrom_28n : Cond.native arraycopyName ∈ wsX3_copyFrom := by decide +kernel
theorem zl_X3_copyFrom_28s : Cond.static arraycopyName ∈ wsX3_copyFrom := by decide +kernel
theorem zl_X3_copyFrom_9 : Cond.fieldLink RX3 9 "RippleCounts$Readings" "numbers" "[I" ∈ wsX3_copyFrom := by decide +kernel
theorem zd_X3_copyFrom : yX3_copyFrom.cls ≠ "java/lang/invoke/MethodHandle" ∧ yX3_copyFrom.cls ≠ "java/lang/invoke/VarHandle" ∧ (parseMethodDescriptor yX3_copyFrom.desc).map (fun d => d.parameters.length) = some 1 := by decide +kernel
set_option maxHeartbeats 4000000 in
set_option maxRecDepth 100000 in
theorem c_X3_copyFrom (l : Launch) (D : va_G) (cI cZ cO : ClassId) (hR aR1 aR2 aR3 aR4 : Nat) (rn : Int) (nu ti co la : Int → Int) (hRo aR1o aR2o aR3o aR4o : Nat) (rno : Int) (nuo tio coo lao : Int → Int) (hla : ∀ i : Int, 0 ≤ i → i < 99 → lao i = 0 ∨ lao i = 1) : z_Mv l yX3_copyFrom wsX3_copyFrom 1 40 D (z_T cI cZ cO) [.ref hR, .ref hRo] ([(hR, .inr (3, [.int (z_I rn), .ref aR1, .ref aR2, .ref aR3, .ref aR4])), (aR1, z_ai cI 99 nu), (aR2, z_ai cI 99 ti), (aR3, z_ai cI 99 co), (aR4, z_ai cI 99 la), (hRo, .inr (3, [.int (z_I rno), .ref aR1o, .ref aR2o, .ref aR3o, .ref aR4o])), (aR1o, z_ai cI 99 nuo), (aR2o, z_ai cI 99 tio), (aR3o, z_ai cI 99 coo), (aR4o, z_ai cI 99 lao)]) ([(hR, .inr (3, [.int (z_I rno), .ref aR1, .ref aR2, .ref aR3, .ref aR4])), (aR1, z_ai cI 99 nuo), (aR2, z_ai cI 99 tio), (aR3, z_ai cI 99 coo), (aR4, z_ai cI 99 lao), (hRo, .inr (3, [.int (z_I rno), .ref aR1o, .ref aR2o, .ref aR3o, .ref aR4o])), (aR1o, z_ai cI 99 nuo), (aR2o, z_ai cI 99 tio), (aR3o, z_ai cI 99 coo), (aR4o, z_ai cI 99 lao)]) := by
  refine z_Mv_of (cc := cX3_copyFrom) (nL := 2) (ret := none) (by decide +kernel) rfl (Nat.le_of_ble_eq_true rfl) ?_
  intro p e s m args below meth c A Q C hQ
  change z_V p l e { frames := 1, cells := 0, slots := 0, locals := 40 } s m args below meth c D A 2 0 0 Q ([(hR, .inr (3, [.int (z_I rn), .ref aR1, .ref aR2, .ref aR3, .ref aR4])), (aR1, z_ai cI 99 nu), (aR2, z_ai cI 99 ti), (aR3, z_ai cI 99 co), (aR4, z_ai cI 99 la), (hRo, .inr (3, [.int (z_I rno), .ref aR1o, .ref aR2o, .ref aR3o, .ref aR4o])), (aR1o, z_ai cI 99 nuo), (aR2o, z_ai cI 99 tio), (aR3o, z_ai cI 99 coo), (aR4o, z_ai cI 99 lao)]) 0 [(0, .ref hR), (1, .ref hRo)] []
  refine z_aload_n C 0 dX3_copyFrom_0 rfl ?_
  refine z_aload_n C 1 dX3_copyFrom_1 rfl ?_
  refine z_get C 5 0 zi_X3_copyFrom_X3 rfl rfl (by decide) zl_X3_copyFrom_24 rfl rfl dX3_copyFrom_2 ?_
  refine z_put C 0 0 ([(hR, .inr (3, [.int (z_I rno), .ref aR1, .ref aR2, .ref aR3, .ref aR4])), (aR1, z_ai cI 99 nu), (aR2, z_ai cI 99 ti), (aR3, z_ai cI 99 co), (aR4, z_ai cI 99 la), (hRo, .inr (3, [.int (z_I rno), .ref aR1o, .ref aR2o, .ref aR3o, .ref aR4o])), (aR1o, z_ai cI 99 nuo), (aR2o, z_ai cI 99 tio), (aR3o, z_ai cI 99 coo), (aR4o, z_ai cI 99 lao)]) zi_X3_copyFrom_X3 tyX3_ok nmX3 rfl rfl (by decide) zl_X3_copyFrom_24 rfl rfl rfl rfl (Nat.le_of_ble_eq_true rfl) rfl dX3_copyFrom_5 ?_
  refine z_aload_n C 1 dX3_copyFrom_8 rfl ?_
  refine z_get C 5 1 zi_X3_copyFrom_X3 rfl rfl (by decide) zl_X3_copyFrom_9 rfl rfl dX3_copyFrom_9 ?_
  refine z_iconst C 0 dX3_copyFrom_12 ?_
  refine z_aload_n C 0 dX3_copyFrom_13 rfl ?_
  refine z_get C 0 1 zi_X3_copyFrom_X3 rfl rfl (by decide) zl_X3_copyFrom_9 rfl rfl dX3_copyFrom_14 ?_
  refine z_iconst C 0 dX3_copyFrom_17 ?_
  refine z_bipush C 99 dX3_copyFrom_18 (by decide) ?_
  refine z_copy C 6 1 0 [(hR, .inr (3, [.int (z_I rno), .ref aR1, .ref aR2, .ref aR3, .ref aR4])), (aR1, z_ai cI 99 (z_cp nuo nu 0 0 99)), (aR2, z_ai cI 99 ti), (aR3, z_ai cI 99 co), (aR4, z_ai cI 99 la), (hRo, .inr (3, [.int (z_I rno), .ref aR1o, .ref aR2o, .ref aR3o, .ref aR4o])), (aR1o, z_ai cI 99 nuo), (aR2o, z_ai cI 99 tio), (aR3o, z_ai cI 99 coo), (aR4o, z_ai cI 99 lao)] .int zl_X3_copyFrom_28k zl_X3_copyFrom_28n zl_X3_copyFrom_28s zl_X3_copyFrom_28i rfl rfl rfl rfl (by omega) (fun _ _ _ => rfl) (by decide) rfl dX3_copyFrom_20 ?_
  refine z_arr (c := c) 1 nuo [(hR, .inr (3, [.int (z_I rno), .ref aR1, .ref aR2, .ref aR3, .ref aR4])), (aR1, z_ai cI 99 nuo), (aR2, z_ai cI 99 ti), (aR3, z_ai cI 99 co), (aR4, z_ai cI 99 la), (hRo, .inr (3, [.int (z_I rno), .ref aR1o, .ref aR2o, .ref aR3o, .ref aR4o])), (aR1o, z_ai cI 99 nuo), (aR2o, z_ai cI 99 tio), (aR3o, z_ai cI 99 coo), (aR4o, z_ai cI 99 lao)] rfl (fun i h1 h2 => z_cp_full h1 (by omega)) rfl ?_
  refine z_aload_n C 1 dX3_copyFrom_23 rfl ?_
  refine z_get C 5 2 zi_X3_copyFrom_X3 rfl rfl (by decide) zl_X3_copyFrom_15 rfl rfl dX3_copyFrom_24 ?_
  refine z_iconst C 0 dX3_copyFrom_27 ?_
  refine z_aload_n C 0 dX3_copyFrom_28 rfl ?_
  refine z_get C 0 2 zi_X3_copyFrom_X3 rfl rfl (by decide) zl_X3_copyFrom_15 rfl rfl dX3_copyFrom_29 ?_
  refine z_iconst C 0 dX3_copyFrom_32 ?_
  refine z_bipush C 99 dX3_copyFrom_33 (by decide) ?_
  refine z_copy C 7 2 0 [(hR, .inr (3, [.int (z_I rno), .ref aR1, .ref aR2, .ref aR3, .ref aR4])), (aR1, z_ai cI 99 nuo), (aR2, z_ai cI 99 (z_cp tio ti 0 0 99)), (aR3, z_ai cI 99 co), (aR4, z_ai cI 99 la), (hRo, .inr (3, [.int (z_I rno), .ref aR1o, .ref aR2o, .ref aR3o, .ref aR4o])), (aR1o, z_ai cI 99 nuo), (aR2o, z_ai cI 99 tio), (aR3o, z_ai cI 99 coo), (aR4o, z_ai cI 99 lao)] .int zl_X3_copyFrom_28k zl_X3_copyFrom_28n zl_X3_copyFrom_28s zl_X3_copyFrom_28i rfl rfl rfl rfl (by omega) (fun _ _ _ => rfl) (by decide) rfl dX3_copyFrom_35 ?_
  refine z_arr (c := c) 2 tio [(hR, .inr (3, [.int (z_I rno), .ref aR1, .ref aR2, .ref aR3, .ref aR4])), (aR1, z_ai cI 99 nuo), (aR2, z_ai cI 99 tio), (aR3, z_ai cI 99 co), (aR4, z_ai cI 99 la), (hRo, .inr (3, [.int (z_I rno), .ref aR1o, .ref aR2o, .ref aR3o, .ref aR4o])), (aR1o, z_ai cI 99 nuo), (aR2o, z_ai cI 99 tio), (aR3o, z_ai cI 99 coo), (aR4o, z_ai cI 99 lao)] rfl (fun i h1 h2 => z_cp_full h1 (by omega)) rfl ?_
  refine z_aload_n C 1 dX3_copyFrom_38 rfl ?_
  refine z_get C 5 3 zi_X3_copyFrom_X3 rfl rfl (by decide) zl_X3_copyFrom_18 rfl rfl dX3_copyFrom_39 ?_
  refine z_iconst C 0 dX3_copyFrom_42 ?_
  refine z_aload_n C 0 dX3_copyFrom_43 rfl ?_
  refine z_get C 0 3 zi_X3_copyFrom_X3 rfl rfl (by decide) zl_X3_copyFrom_18 rfl rfl dX3_copyFrom_44 ?_
  refine z_iconst C 0 dX3_copyFrom_47 ?_
  refine z_bipush C 99 dX3_copyFrom_48 (by decide) ?_
  refine z_copy C 8 3 0 [(hR, .inr (3, [.int (z_I rno), .ref aR1, .ref aR2, .ref aR3, .ref aR4])), (aR1, z_ai cI 99 nuo), (aR2, z_ai cI 99 tio), (aR3, z_ai cI 99 (z_cp coo co 0 0 99)), (aR4, z_ai cI 99 la), (hRo, .inr (3, [.int (z_I rno), .ref aR1o, .ref aR2o, .ref aR3o, .ref aR4o])), (aR1o, z_ai cI 99 nuo), (aR2o, z_ai cI 99 tio), (aR3o, z_ai cI 99 coo), (aR4o, z_ai cI 99 lao)] .int zl_X3_copyFrom_28k zl_X3_copyFrom_28n zl_X3_copyFrom_28s zl_X3_copyFrom_28i rfl rfl rfl rfl (by omega) (fun _ _ _ => rfl) (by decide) rfl dX3_copyFrom_50 ?_
  refine z_arr (c := c) 3 coo [(hR, .inr (3, [.int (z_I rno), .ref aR1, .ref aR2, .ref aR3, .ref aR4])), (aR1, z_ai cI 99 nuo), (aR2, z_ai cI 99 tio), (aR3, z_ai cI 99 coo), (aR4, z_ai cI 99 la), (hRo, .inr (3, [.int (z_I rno), .ref aR1o, .ref aR2o, .ref aR3o, .ref aR4o])), (aR1o, z_ai cI 99 nuo), (aR2o, z_ai cI 99 tio), (aR3o, z_ai cI 99 coo), (aR4o, z_ai cI 99 lao)] rfl (fun i h1 h2 => z_cp_full h1 (by omega)) rfl ?_
  refine z_aload_n C 1 dX3_copyFrom_53 rfl ?_
  refine z_get C 5 4 zi_X3_copyFrom_X3 rfl rfl (by decide) zl_X3_copyFrom_21 rfl rfl dX3_copyFrom_54 ?_
  refine z_iconst C 0 dX3_copyFrom_57 ?_
  refine z_aload_n C 0 dX3_copyFrom_58 rfl ?_
  refine z_get C 0 4 zi_X3_copyFrom_X3 rfl rfl (by decide) zl_X3_copyFrom_21 rfl rfl dX3_copyFrom_59 ?_
  refine z_iconst C 0 dX3_copyFrom_62 ?_
  refine z_bipush C 99 dX3_copyFrom_63 (by decide) ?_
  refine z_copy C 9 4 0 [(hR, .inr (3, [.int (z_I rno), .ref aR1, .ref aR2, .ref aR3, .ref aR4])), (aR1, z_ai cI 99 nuo), (aR2, z_ai cI 99 tio), (aR3, z_ai cI 99 coo), (aR4, z_ai cI 99 (z_cp lao la 0 0 99)), (hRo, .inr (3, [.int (z_I rno), .ref aR1o, .ref aR2o, .ref aR3o, .ref aR4o])), (aR1o, z_ai cI 99 nuo), (aR2o, z_ai cI 99 tio), (aR3o, z_ai cI 99 coo), (aR4o, z_ai cI 99 lao)] .int zl_X3_copyFrom_28k zl_X3_copyFrom_28n zl_X3_copyFrom_28s zl_X3_copyFrom_28i rfl rfl rfl rfl (by omega) (fun _ _ _ => rfl) (by decide) rfl dX3_copyFrom_65 ?_
  refine z_arr (c := c) 4 lao [(hR, .inr (3, [.int (z_I rno), .ref aR1, .ref aR2, .ref aR3, .ref aR4])), (aR1, z_ai cI 99 nuo), (aR2, z_ai cI 99 tio), (aR3, z_ai cI 99 coo), (aR4, z_ai cI 99 lao), (hRo, .inr (3, [.int (z_I rno), .ref aR1o, .ref aR2o, .ref aR3o, .ref aR4o])), (aR1o, z_ai cI 99 nuo), (aR2o, z_ai cI 99 tio), (aR3o, z_ai cI 99 coo), (aR4o, z_ai cI 99 lao)] rfl (fun i h1 h2 => z_cp_full h1 (by omega)) rfl ?_
  exact z_vret C hQ rfl dX3_copyFrom_68
theorem zi_X3_clear_X3 : ∀ w ∈ u_ws RX3 TX3 5, w ∈ wsX3_clear := by decide +kernel
theorem zl_X3_clear_24 : Cond.fieldLink RX3 24 "RippleCounts$Readings" "size" "I" ∈ wsX3_clear := by decide +kernel
theorem zd_X3_clear : yX3_clear.cls ≠ "java/lang/invoke/MethodHandle" ∧ yX3_clear.cls ≠ "java/lang/invoke/VarHandle" ∧ (parseMethodDescriptor yX3_clear.desc).map (fun d => d.parameters.length) = some 0 := by decide +kernel
set_option maxHeartbeats 4000000 in
set_option maxRecDepth 100000 in
theorem c_X3_clear (l : Launch) (D : va_G) (cI cZ cO : ClassId) (hR aR1 aR2 aR3 aR4 : Nat) (rn : Int) (nu ti co la : Int → Int) : z_Mv l yX3_clear wsX3_clear 0 0 D (z_T cI cZ cO) [.ref hR] ([(hR, .inr (3, [.int (z_I rn), .ref aR1, .ref aR2, .ref aR3, .ref aR4])), (aR1, z_ai cI 99 nu), (aR2, z_ai cI 99 ti), (aR3, z_ai cI 99 co), (aR4, z_ai cI 99 la)]) ([(hR, .inr (3, [.int (z_I 0), .ref aR1, .ref aR2, .ref aR3, .ref aR4])), (aR1, z_ai cI 99 nu), (aR2, z_ai cI 99 ti), (aR3, z_ai cI 99 co), (aR4, z_ai cI 99 la)]) := by
  refine z_Mv_of (cc := cX3_clear) (nL := 1) (ret := none) (by decide +kernel) rfl (Nat.le_of_ble_eq_true rfl) ?_
  intro p e s m args below meth c A Q C hQ
  change z_V p l e { frames := 0, cells := 0, slots := 0, locals := 0 } s m args below meth c D A 1 0 0 Q ([(hR, .inr (3, [.int (z_I rn), .ref aR1, .ref aR2, .ref aR3, .ref aR4])), (aR1, z_ai cI 99 nu), (aR2, z_ai cI 99 ti), (aR3, z_ai cI 99 co), (aR4, z_ai cI 99 la)]) 0 [(0, .ref hR)] []
  refine z_aload_n C 0 dX3_clear_0 rfl ?_
  refine z_iconst C 0 dX3_clear_1 ?_
  refine z_put C 0 0 ([(hR, .inr (3, [.int (z_I 0), .ref aR1, .ref aR2, .ref aR3, .ref aR4])), (aR1, z_ai cI 99 nu), (aR2, z_ai cI 99 ti), (aR3, z_ai cI 99 co), (aR4, z_ai cI 99 la)]) zi_X3_clear_X3 tyX3_ok nmX3 rfl rfl (by decide) zl_X3_clear_24 rfl rfl rfl rfl (Nat.le_of_ble_eq_true rfl) rfl dX3_clear_2 ?_
  exact z_vret C hQ rfl dX3_clear_5
theorem zi_X3_add_X3 : ∀ w ∈ u_ws RX3 TX3 5, w ∈ wsX3_add := by decide +kernel
theorem zl_X3_add_15 : Cond.fieldLink RX3 15 "RippleCounts$Readings" "times" "[I" ∈ wsX3_add := by decide +kernel
theorem zl_X3_add_18 : Cond.fieldLink RX3 18 "RippleCounts$Readings" "counts" "[I" ∈ wsX3_add := by decide +kernel
theorem zl_X3_add_21 : Cond.fieldLink RX3 21 "RippleCounts$Readings" "latched" "[I" ∈ wsX3_add := by decide +kernel
theorem zl_X3_add_24 : Cond.fieldLink RX3 24 "RippleCounts$Readings" "size" "I" ∈ wsX3_add := by decide +kernel
theorem zl_X3_add_9 : Cond.fieldLink RX3 9 "RippleCounts$Readings" "numbers" "[I" ∈ wsX3_add := by decide +kernel
theorem zd_X3_add : yX3_add.cls ≠ "java/lang/invoke/MethodHandle" ∧ yX3_add.cls ≠ "java/lang/invoke/VarHandle" ∧ (parseMethodDescriptor yX3_add.desc).map (fun d => d.parameters.length) = some 4 := by decide +kernel
set_option maxHeartbeats 4000000 in
set_option maxRecDepth 100000 in
theorem c_X3_add (l : Launch) (D : va_G) (cI cZ cO : ClassId) (hR aR1 aR2 aR3 aR4 : Nat) (rn : Int) (nu ti co la : Int → Int) (nb tm cn lt : Int) (hn : 0 ≤ rn ∧ rn < 99) (hlt : lt = 0 ∨ lt = 1) : z_Mv l yX3_add wsX3_add 0 0 D (z_T cI cZ cO) [.ref hR, .int (z_I nb), .int (z_I tm), .int (z_I cn), .int (z_I lt)] ([(hR, .inr (3, [.int (z_I rn), .ref aR1, .ref aR2, .ref aR3, .ref aR4])), (aR1, z_ai cI 99 nu), (aR2, z_ai cI 99 ti), (aR3, z_ai cI 99 co), (aR4, z_ai cI 99 la)]) ([(hR, .inr (3, [.int (z_I (rn + 1)), .ref aR1, .ref aR2, .ref aR3, .ref aR4])), (aR1, z_ai cI 99 (z_u nu rn nb)), (aR2, z_ai cI 99 (z_u ti rn tm)), (aR3, z_ai cI 99 (z_u co rn cn)), (aR4, z_ai cI 99 (z_u la rn lt))]) := by
  refine z_Mv_of (cc := cX3_add) (nL := 5) (ret := none) (by decide +kernel) rfl (Nat.le_of_ble_eq_true rfl) ?_
  intro p e s m args below meth c A Q C hQ
  change z_V p l e { frames := 0, cells := 0, slots := 0, locals := 0 } s m args below meth c D A 5 0 0 Q ([(hR, .inr (3, [.int (z_I rn), .ref aR1, .ref aR2, .ref aR3, .ref aR4])), (aR1, z_ai cI 99 nu), (aR2, z_ai cI 99 ti), (aR3, z_ai cI 99 co), (aR4, z_ai cI 99 la)]) 0 [(0, .ref hR), (1, .int (z_I nb)), (2, .int (z_I tm)), (3, .int (z_I cn)), (4, .int (z_I lt))] []
  refine z_aload_n C 0 dX3_add_0 rfl ?_
  refine z_get C 0 0 zi_X3_add_X3 rfl rfl (by decide) zl_X3_add_24 rfl rfl dX3_add_1 ?_
  refine z_bipush C 99 dX3_add_4 (by decide) ?_
  refine z_icmp_lt C 10 dX3_add_6 (by decide) (by omega) (by omega) (fun hc1 => ?_) (fun hc1 => ?_)
  · skip
    refine z_aload_n C 0 dX3_add_10 rfl ?_
    refine z_get C 0 1 zi_X3_add_X3 rfl rfl (by decide) zl_X3_add_9 rfl rfl dX3_add_11 ?_
    refine z_aload_n C 0 dX3_add_14 rfl ?_
    refine z_get C 0 0 zi_X3_add_X3 rfl rfl (by decide) zl_X3_add_24 rfl rfl dX3_add_15 ?_
    refine z_iload_n C 1 dX3_add_18 rfl ?_
    refine z_iast C 1 0 ([(hR, .inr (3, [.int (z_I rn), .ref aR1, .ref aR2, .ref aR3, .ref aR4])), (aR1, z_ai cI 99 (z_u nu rn nb)), (aR2, z_ai cI 99 ti), (aR3, z_ai cI 99 co), (aR4, z_ai cI 99 la)]) rfl rfl (by decide) (by omega) rfl dX3_add_19 ?_
    refine z_aload_n C 0 dX3_add_20 rfl ?_
    refine z_get C 0 2 zi_X3_add_X3 rfl rfl (by decide) zl_X3_add_15 rfl rfl dX3_add_21 ?_
    refine z_aload_n C 0 dX3_add_24 rfl ?_
    refine z_get C 0 0 zi_X3_add_X3 rfl rfl (by decide) zl_X3_add_24 rfl rfl dX3_add_25 ?_
    refine z_iload_n C 2 dX3_add_28 rfl ?_
    refine z_iast C 2 0 ([(hR, .inr (3, [.int (z_I rn), .ref aR1, .ref aR2, .ref aR3, .ref aR4])), (aR1, z_ai cI 99 (z_u nu rn nb)), (aR2, z_ai cI 99 (z_u ti rn tm)), (aR3, z_ai cI 99 co), (aR4, z_ai cI 99 la)]) rfl rfl (by decide) (by omega) rfl dX3_add_29 ?_
    refine z_aload_n C 0 dX3_add_30 rfl ?_
    refine z_get C 0 3 zi_X3_add_X3 rfl rfl (by decide) zl_X3_add_18 rfl rfl dX3_add_31 ?_
    refine z_aload_n C 0 dX3_add_34 rfl ?_
    refine z_get C 0 0 zi_X3_add_X3 rfl rfl (by decide) zl_X3_add_24 rfl rfl dX3_add_35 ?_
    refine z_iload_n C 3 dX3_add_38 rfl ?_
    refine z_iast C 3 0 ([(hR, .inr (3, [.int (z_I rn), .ref aR1, .ref aR2, .ref aR3, .ref aR4])), (aR1, z_ai cI 99 (z_u nu rn nb)), (aR2, z_ai cI 99 (z_u ti rn tm)), (aR3, z_ai cI 99 (z_u co rn cn)), (aR4, z_ai cI 99 la)]) rfl rfl (by decide) (by omega) rfl dX3_add_39 ?_
    refine z_aload_n C 0 dX3_add_40 rfl ?_
    refine z_get C 0 4 zi_X3_add_X3 rfl rfl (by decide) zl_X3_add_21 rfl rfl dX3_add_41 ?_
    refine z_aload_n C 0 dX3_add_44 rfl ?_
    refine z_get C 0 0 zi_X3_add_X3 rfl rfl (by decide) zl_X3_add_24 rfl rfl dX3_add_45 ?_
    refine z_iload C 4 dX3_add_48 rfl ?_
    refine z_if_eq C 57 dX3_add_50 (by decide) (by omega) (fun hc2 => ?_) (fun hc2 => ?_)
    · skip
      refine z_iconst C 0 dX3_add_57 ?_
      refine z_iast C 4 0 ([(hR, .inr (3, [.int (z_I rn), .ref aR1, .ref aR2, .ref aR3, .ref aR4])), (aR1, z_ai cI 99 (z_u nu rn nb)), (aR2, z_ai cI 99 (z_u ti rn tm)), (aR3, z_ai cI 99 (z_u co rn cn)), (aR4, z_ai cI 99 (z_u la rn 0))]) rfl rfl (by decide) (by omega) rfl dX3_add_58 ?_
      refine z_aload_n C 0 dX3_add_59 rfl ?_
      refine z_dup C dX3_add_60 rfl ?_
      refine z_get C 0 0 zi_X3_add_X3 rfl rfl (by decide) zl_X3_add_24 rfl rfl dX3_add_61 ?_
      refine z_iconst C 1 dX3_add_64 ?_
      refine z_iadd C dX3_add_65 ?_
      refine z_put C 0 0 ([(hR, .inr (3, [.int (z_I (rn + 1)), .ref aR1, .ref aR2, .ref aR3, .ref aR4])), (aR1, z_ai cI 99 (z_u nu rn nb)), (aR2, z_ai cI 99 (z_u ti rn tm)), (aR3, z_ai cI 99 (z_u co rn cn)), (aR4, z_ai cI 99 (z_u la rn 0))]) zi_X3_add_X3 tyX3_ok nmX3 rfl rfl (by decide) zl_X3_add_24 rfl rfl rfl rfl (Nat.le_of_ble_eq_true rfl) rfl dX3_add_66 ?_
      exact z_vret C hQ (by first | rw [show lt = 1 by omega] | rw [show lt = 0 by omega]) dX3_add_69
    · skip
      refine z_iconst C 1 dX3_add_53 ?_
      refine z_goto C 58 dX3_add_54 (by decide) ?_
      refine z_iast C 4 0 ([(hR, .inr (3, [.int (z_I rn), .ref aR1, .ref aR2, .ref aR3, .ref aR4])), (aR1, z_ai cI 99 (z_u nu rn nb)), (aR2, z_ai cI 99 (z_u ti rn tm)), (aR3, z_ai cI 99 (z_u co rn cn)), (aR4, z_ai cI 99 (z_u la rn 1))]) rfl rfl (by decide) (by omega) rfl dX3_add_58 ?_
      refine z_aload_n C 0 dX3_add_59 rfl ?_
      refine z_dup C dX3_add_60 rfl ?_
      refine z_get C 0 0 zi_X3_add_X3 rfl rfl (by decide) zl_X3_add_24 rfl rfl dX3_add_61 ?_
      refine z_iconst C 1 dX3_add_64 ?_
      refine z_iadd C dX3_add_65 ?_
      refine z_put C 0 0 ([(hR, .inr (3, [.int (z_I (rn + 1)), .ref aR1, .ref aR2, .ref aR3, .ref aR4])), (aR1, z_ai cI 99 (z_u nu rn nb)), (aR2, z_ai cI 99 (z_u ti rn tm)), (aR3, z_ai cI 99 (z_u co rn cn)), (aR4, z_ai cI 99 (z_u la rn 1))]) zi_X3_add_X3 tyX3_ok nmX3 rfl rfl (by decide) zl_X3_add_24 rfl rfl rfl rfl (Nat.le_of_ble_eq_true rfl) rfl dX3_add_66 ?_
      exact z_vret C hQ (by first | rw [show lt = 1 by omega] | rw [show lt = 0 by omega]) dX3_add_69
  · exfalso; omega
theorem zi_X3_isTrue_X3 : ∀ w ∈ u_ws RX3 TX3 5, w ∈ wsX3_isTrue := by decide +kernel
theorem zl_X3_isTrue_18 : Cond.fieldLink RX3 18 "RippleCounts$Readings" "counts" "[I" ∈ wsX3_isTrue := by decide +kernel
theorem zl_X3_isTrue_9 : Cond.fieldLink RX3 9 "RippleCounts$Readings" "numbers" "[I" ∈ wsX3_isTrue := by decide +kernel
theorem zd_X3_isTrue : yX3_isTrue.cls ≠ "java/lang/invoke/MethodHandle" ∧ yX3_isTrue.cls ≠ "java/lang/invoke/VarHandle" ∧ (parseMethodDescriptor yX3_isTrue.desc).map (fun d => d.parameters.length) = some 1 := by decide +kernel
set_option maxHeartbeats 4000000 in
set_option maxRecDepth 100000 in
theorem c_X3_isTrue (l : Launch) (D : va_G) (cI cZ cO : ClassId) (hR aR1 aR2 aR3 aR4 : Nat) (rn : Int) (nu ti co la : Int → Int) (k : Int) (hk : 0 ≤ k ∧ k < 99) (hnu : 0 ≤ nu k ∧ nu k < 1000000) (hco : 0 ≤ co k ∧ co k < 1000000) : z_Mi l yX3_isTrue wsX3_isTrue 0 0 D (z_T cI cZ cO) [.ref hR, .int (z_I k)] ([(hR, .inr (3, [.int (z_I rn), .ref aR1, .ref aR2, .ref aR3, .ref aR4])), (aR1, z_ai cI 99 nu), (aR2, z_ai cI 99 ti), (aR3, z_ai cI 99 co), (aR4, z_ai cI 99 la)]) ([(hR, .inr (3, [.int (z_I rn), .ref aR1, .ref aR2, .ref aR3, .ref aR4])), (aR1, z_ai cI 99 nu), (aR2, z_ai cI 99 ti), (aR3, z_ai cI 99 co), (aR4, z_ai cI 99 la)]) (if nu k = co k then 1 else 0) := by
  refine z_Mi_of (cc := cX3_isTrue) (nL := 2) (ret := (some .boolean)) (by decide +kernel) rfl (Nat.le_of_ble_eq_true rfl) ?_
  intro p e s m args below meth c A Q C hQ
  change z_V p l e { frames := 0, cells := 0, slots := 0, locals := 0 } s m args below meth c D A 2 0 0 Q ([(hR, .inr (3, [.int (z_I rn), .ref aR1, .ref aR2, .ref aR3, .ref aR4])), (aR1, z_ai cI 99 nu), (aR2, z_ai cI 99 ti), (aR3, z_ai cI 99 co), (aR4, z_ai cI 99 la)]) 0 [(0, .ref hR), (1, .int (z_I k))] []
  refine z_aload_n C 0 dX3_isTrue_0 rfl ?_
  refine z_get C 0 1 zi_X3_isTrue_X3 rfl rfl (by decide) zl_X3_isTrue_9 rfl rfl dX3_isTrue_1 ?_
  refine z_iload_n C 1 dX3_isTrue_4 rfl ?_
  refine z_iald C 1 0 rfl rfl (by decide) (by omega) dX3_isTrue_5 ?_
  refine z_aload_n C 0 dX3_isTrue_6 rfl ?_
  refine z_get C 0 3 zi_X3_isTrue_X3 rfl rfl (by decide) zl_X3_isTrue_18 rfl rfl dX3_isTrue_7 ?_
  refine z_iload_n C 1 dX3_isTrue_10 rfl ?_
  refine z_iald C 3 0 rfl rfl (by decide) (by omega) dX3_isTrue_11 ?_
  refine z_icmp_ne C 19 dX3_isTrue_12 (by decide) (by omega) (by omega) (fun hc1 => ?_) (fun hc1 => ?_)
  · skip
    refine z_iconst C 0 dX3_isTrue_19 ?_
    exact z_zret C hQ rfl (by first | rfl | omega | ((repeat' split) <;> omega)) (by omega) dX3_isTrue_20
  · skip
    refine z_iconst C 1 dX3_isTrue_15 ?_
    refine z_goto C 20 dX3_isTrue_16 (by decide) ?_
    exact z_zret C hQ rfl (by first | rfl | omega | ((repeat' split) <;> omega)) (by omega) dX3_isTrue_20
theorem zi_X3_tell_X3 : ∀ w ∈ u_ws RX3 TX3 5, w ∈ wsX3_tell := by decide +kernel
theorem zl_X3_tell_15 : Cond.fieldLink RX3 15 "RippleCounts$Readings" "times" "[I" ∈ wsX3_tell := by decide +kernel
theorem zl_X3_tell_18 : Cond.fieldLink RX3 18 "RippleCounts$Readings" "counts" "[I" ∈ wsX3_tell := by decide +kernel
theorem zl_X3_tell_21 : Cond.fieldLink RX3 21 "RippleCounts$Readings" "latched" "[I" ∈ wsX3_tell := by decide +kernel
theorem zl_X3_tell_24 : Cond.fieldLink RX3 24 "RippleCounts$Readings" "size" "I" ∈ wsX3_tell := by decide +kernel
theorem zl_X3_tell_9 : Cond.fieldLink RX3 9 "RippleCounts$Readings" "numbers" "[I" ∈ wsX3_tell := by decide +kernel
theorem zd_X3_tell : yX3_tell.cls ≠ "java/lang/invoke/MethodHandle" ∧ yX3_tell.cls ≠ "java/lang/invoke/VarHandle" ∧ (parseMethodDescriptor yX3_tell.desc).map (fun d => d.parameters.length) = some 2 := by decide +kernel
set_option maxHeartbeats 4000000 in
set_option maxRecDepth 100000 in
theorem c_X3_tell (l : Launch) (D : va_G) (cI cZ cO : ClassId) (hR aR1 aR2 aR3 aR4 : Nat) (rn : Int) (nu ti co la : Int → Int) (k w : Int) (hk : -2147483648 ≤ k ∧ k < 2147483648) (hw : -2147483648 ≤ w ∧ w < 2147483648) (hn : 0 ≤ rn ∧ rn ≤ 99) (hnu : ∀ i : Int, 0 ≤ i → i < rn → (0 ≤ nu i ∧ nu i < 1000000) ∧ (0 ≤ co i ∧ co i < 1000000) ∧ (la i = 0 ∨ la i = 1)) : z_Mi l yX3_tell wsX3_tell 1 21 D (z_T cI cZ cO) [.ref hR, .int (z_I k), .int (z_I w)] ([(hR, .inr (3, [.int (z_I rn), .ref aR1, .ref aR2, .ref aR3, .ref aR4])), (aR1, z_ai cI 99 nu), (aR2, z_ai cI 99 ti), (aR3, z_ai cI 99 co), (aR4, z_ai cI 99 la)]) ([(hR, .inr (3, [.int (z_I rn), .ref aR1, .ref aR2, .ref aR3, .ref aR4])), (aR1, z_ai cI 99 nu), (aR2, z_ai cI 99 ti), (aR3, z_ai cI 99 co), (aR4, z_ai cI 99 la)]) (if 0 ≤ k ∧ k < rn then (if w = 0 then nu k else if w = 1 then ti k else if w = 2 then co k else if w = 3 then (if la k = 0 then 0 else 1) else if w = 4 then (if nu k = co k then 1 else 0) else -2) else -1) := by
  refine z_Mi_of (cc := cX3_tell) (nL := 3) (ret := (some .int)) (by decide +kernel) rfl (Nat.le_of_ble_eq_true rfl) ?_
  intro p e s m args below meth c A Q C hQ
  change z_V p l e { frames := 1, cells := 0, slots := 0, locals := 21 } s m args below meth c D A 3 0 0 Q ([(hR, .inr (3, [.int (z_I rn), .ref aR1, .ref aR2, .ref aR3, .ref aR4])), (aR1, z_ai cI 99 nu), (aR2, z_ai cI 99 ti), (aR3, z_ai cI 99 co), (aR4, z_ai cI 99 la)]) 0 [(0, .ref hR), (1, .int (z_I k)), (2, .int (z_I w))] []
  refine z_iload_n C 1 dX3_tell_0 rfl ?_
  refine z_if_lt C 12 dX3_tell_1 (by decide) (by omega) (fun hc1 => ?_) (fun hc1 => ?_)
  · skip
    refine z_iconst C (-1) dX3_tell_12 ?_
    exact z_iret C hQ rfl (by first | rfl | omega | ((repeat' split) <;> omega)) dX3_tell_13
  · skip
    refine z_iload_n C 1 dX3_tell_4 rfl ?_
    refine z_aload_n C 0 dX3_tell_5 rfl ?_
    refine z_get C 0 0 zi_X3_tell_X3 rfl rfl (by decide) zl_X3_tell_24 rfl rfl dX3_tell_6 ?_
    refine z_icmp_lt C 14 dX3_tell_9 (by decide) (by omega) (by omega) (fun hc2 => ?_) (fun hc2 => ?_)
    · skip
      have hM := hnu k (by omega) (by omega)
      refine z_iload_n C 2 dX3_tell_14 rfl ?_
      by_cases hc3 : w = 0
      · skip
        refine z_tabI C 48 0 dX3_tell_15 hc3 (by decide) rfl (by decide) ?_
        refine z_aload_n C 0 dX3_tell_48 rfl ?_
        refine z_get C 0 1 zi_X3_tell_X3 rfl rfl (by decide) zl_X3_tell_9 rfl rfl dX3_tell_49 ?_
        refine z_iload_n C 1 dX3_tell_52 rfl ?_
        refine z_iald C 1 0 rfl rfl (by decide) (by omega) dX3_tell_53 ?_
        exact z_iret C hQ rfl (by first | rfl | omega | ((repeat' split) <;> omega)) dX3_tell_54
      by_cases hc4 : w = 1
      · skip
        refine z_tabI C 55 1 dX3_tell_15 hc4 (by decide) rfl (by decide) ?_
        refine z_aload_n C 0 dX3_tell_55 rfl ?_
        refine z_get C 0 2 zi_X3_tell_X3 rfl rfl (by decide) zl_X3_tell_15 rfl rfl dX3_tell_56 ?_
        refine z_iload_n C 1 dX3_tell_59 rfl ?_
        refine z_iald C 2 0 rfl rfl (by decide) (by omega) dX3_tell_60 ?_
        exact z_iret C hQ rfl (by first | rfl | omega | ((repeat' split) <;> omega)) dX3_tell_61
      by_cases hc5 : w = 2
      · skip
        refine z_tabI C 62 2 dX3_tell_15 hc5 (by decide) rfl (by decide) ?_
        refine z_aload_n C 0 dX3_tell_62 rfl ?_
        refine z_get C 0 3 zi_X3_tell_X3 rfl rfl (by decide) zl_X3_tell_18 rfl rfl dX3_tell_63 ?_
        refine z_iload_n C 1 dX3_tell_66 rfl ?_
        refine z_iald C 3 0 rfl rfl (by decide) (by omega) dX3_tell_67 ?_
        exact z_iret C hQ rfl (by first | rfl | omega | ((repeat' split) <;> omega)) dX3_tell_68
      by_cases hc6 : w = 3
      · skip
        refine z_tabI C 69 3 dX3_tell_15 hc6 (by decide) rfl (by decide) ?_
        refine z_aload_n C 0 dX3_tell_69 rfl ?_
        refine z_get C 0 4 zi_X3_tell_X3 rfl rfl (by decide) zl_X3_tell_21 rfl rfl dX3_tell_70 ?_
        refine z_iload_n C 1 dX3_tell_73 rfl ?_
        refine z_iald C 4 0 rfl rfl (by decide) (by omega) dX3_tell_74 ?_
        exact z_iret C hQ rfl (by first | rfl | omega | ((repeat' split) <;> omega)) dX3_tell_75
      by_cases hc7 : w = 4
      · skip
        refine z_tabI C 76 4 dX3_tell_15 hc7 (by decide) rfl (by decide) ?_
        refine z_aload_n C 0 dX3_tell_76 rfl ?_
        refine z_iload_n C 1 dX3_tell_77 rfl ?_
        refine z_callVi C [0, 1, 2, 3, 4] [(hR, .inr (3, [.int (z_I rn), .ref aR1, .ref aR2, .ref aR3, .ref aR4])), (aR1, z_ai cI 99 nu), (aR2, z_ai cI 99 ti), (aR3, z_ai cI 99 co), (aR4, z_ai cI 99 la)] [.int (z_I k)] [] (c_X3_isTrue l D cI cZ cO hR aR1 aR2 aR3 aR4 rn nu ti co la k (by first | assumption | omega) (by first | assumption | omega) (by first | assumption | omega)) gX3_tell_X3_isTrue rfl zd_X3_isTrue rfl (by decide) rfl rfl rfl (by decide) rfl rfl rfl (Nat.le_of_ble_eq_true rfl) (by decide) dX3_tell_78 ?_
        refine z_if_eq C 88 dX3_tell_81 (by decide) (by omega) (fun hc8 => ?_) (fun hc8 => ?_)
        · skip
          have hz := z_if0.mp hc8
          refine z_iconst C 0 dX3_tell_88 ?_
          exact z_iret C hQ rfl (by first | rfl | omega | ((repeat' split) <;> omega)) dX3_tell_89
        · skip
          have hz := z_if1.mp hc8
          refine z_iconst C 1 dX3_tell_84 ?_
          refine z_goto C 89 dX3_tell_85 (by decide) ?_
          exact z_iret C hQ rfl (by first | rfl | omega | ((repeat' split) <;> omega)) dX3_tell_89
      refine z_tabO C 90 dX3_tell_15 (by omega) (by omega) (by decide) ?_
      refine z_bipush C (-2) dX3_tell_90 (by decide) ?_
      exact z_iret C hQ rfl (by first | rfl | omega | ((repeat' split) <;> omega)) dX3_tell_92
    · skip
      refine z_iconst C (-1) dX3_tell_12 ?_
      exact z_iret C hQ rfl (by first | rfl | omega | ((repeat' split) <;> omega)) dX3_tell_13
theorem zi_X3_trueOnes_X3 : ∀ w ∈ u_ws RX3 TX3 5, w ∈ wsX3_trueOnes := by decide +kernel
theorem zl_X3_trueOnes_24 : Cond.fieldLink RX3 24 "RippleCounts$Readings" "size" "I" ∈ wsX3_trueOnes := by decide +kernel
theorem zd_X3_trueOnes : yX3_trueOnes.cls ≠ "java/lang/invoke/MethodHandle" ∧ yX3_trueOnes.cls ≠ "java/lang/invoke/VarHandle" ∧ (parseMethodDescriptor yX3_trueOnes.desc).map (fun d => d.parameters.length) = some 0 := by decide +kernel
set_option maxHeartbeats 4000000 in
set_option maxRecDepth 100000 in
theorem c_X3_trueOnes (l : Launch) (D : va_G) (cI cZ cO : ClassId) (hR aR1 aR2 aR3 aR4 : Nat) (rn : Int) (nu ti co la : Int → Int) (hn : 0 ≤ rn ∧ rn ≤ 99) (hnu : ∀ i : Int, 0 ≤ i → i < rn → (0 ≤ nu i ∧ nu i < 1000000) ∧ (0 ≤ co i ∧ co i < 1000000) ∧ (la i = 0 ∨ la i = 1)) : z_Mi l yX3_trueOnes wsX3_trueOnes 1 21 D (z_T cI cZ cO) [.ref hR] ([(hR, .inr (3, [.int (z_I rn), .ref aR1, .ref aR2, .ref aR3, .ref aR4])), (aR1, z_ai cI 99 nu), (aR2, z_ai cI 99 ti), (aR3, z_ai cI 99 co), (aR4, z_ai cI 99 la)]) ([(hR, .inr (3, [.int (z_I rn), .ref aR1, .ref aR2, .ref aR3, .ref aR4])), (aR1, z_ai cI 99 nu), (aR2, z_ai cI 99 ti), (aR3, z_ai cI 99 co), (aR4, z_ai cI 99 la)]) (z_it (fun j a => if nu j = co j then a + 1 else a) 0 rn.toNat) := by
  refine z_Mi_of (cc := cX3_trueOnes) (nL := 3) (ret := (some .int)) (by decide +kernel) rfl (Nat.le_of_ble_eq_true rfl) ?_
  intro p e s m args below meth c A Q C hQ
  change z_V p l e { frames := 1, cells := 0, slots := 0, locals := 21 } s m args below meth c D A 3 0 0 Q ([(hR, .inr (3, [.int (z_I rn), .ref aR1, .ref aR2, .ref aR3, .ref aR4])), (aR1, z_ai cI 99 nu), (aR2, z_ai cI 99 ti), (aR3, z_ai cI 99 co), (aR4, z_ai cI 99 la)]) 0 [(0, .ref hR)] []
  refine z_iconst C 0 dX3_trueOnes_0 ?_
  refine z_istore_n C [(1, .int (z_I 0)), (0, .ref hR)] dX3_trueOnes_1 (by decide) rfl ?_
  refine z_iconst C 0 dX3_trueOnes_2 ?_
  refine z_istore_n C [(2, .int (z_I 0)), (1, .int (z_I 0)), (0, .ref hR)] dX3_trueOnes_3 (by decide) rfl ?_
  have loop4 : ∀ (zn : Nat) (j : Int) (a : Int), 0 ≤ j ∧ j ≤ rn → a = z_it (fun j a => if nu j = co j then a + 1 else a) 0 j.toNat → (rn - j) < (zn : Int) → z_V p l e { frames := 1, cells := 0, slots := 0, locals := 21 } s m args below meth c D A 3 0 0 Q [(hR, .inr (3, [.int (z_I rn), .ref aR1, .ref aR2, .ref aR3, .ref aR4])), (aR1, z_ai cI 99 nu), (aR2, z_ai cI 99 ti), (aR3, z_ai cI 99 co), (aR4, z_ai cI 99 la)] 4 [(2, .int (z_I j)), (1, .int (z_I a)), (0, .ref hR)] [] := by
    intro zn
    induction zn with
    | zero => intro j a hj ha hm4; exact absurd hm4 (by omega)
    | succ zn4 ih4 =>
      intro j a hj ha hm4
      refine z_iload_n C 0 dX3_trueOnes_4 rfl ?_
      refine z_aload_n C 2 dX3_trueOnes_5 rfl ?_
      refine z_get C 0 0 zi_X3_trueOnes_X3 rfl rfl (by decide) zl_X3_trueOnes_24 rfl rfl dX3_trueOnes_6 ?_
      refine z_icmp_ge C 29 dX3_trueOnes_9 (by decide) (by omega) (by omega) (fun hc1 => ?_) (fun hc1 => ?_)
      · skip
        obtain rfl : j = rn := by omega
        refine z_iload_n C 1 dX3_trueOnes_29 rfl ?_
        exact z_iret C hQ rfl ha dX3_trueOnes_30
      · skip
        have hM := hnu j (by omega) (by omega)
        refine z_aload_n C 2 dX3_trueOnes_12 rfl ?_
        refine z_iload_n C 0 dX3_trueOnes_13 rfl ?_
        refine z_callVi C [0, 1, 2, 3, 4] [(hR, .inr (3, [.int (z_I rn), .ref aR1, .ref aR2, .ref aR3, .ref aR4])), (aR1, z_ai cI 99 nu), (aR2, z_ai cI 99 ti), (aR3, z_ai cI 99 co), (aR4, z_ai cI 99 la)] [.int (z_I j)] [] (c_X3_isTrue l D cI cZ cO hR aR1 aR2 aR3 aR4 rn nu ti co la j (by first | assumption | omega) hM.1 hM.2.1) gX3_trueOnes_X3_isTrue rfl zd_X3_isTrue rfl (by decide) rfl rfl rfl (by decide) rfl rfl rfl (Nat.le_of_ble_eq_true rfl) (by decide) dX3_trueOnes_14 ?_
        refine z_if_eq C 23 dX3_trueOnes_17 (by decide) (by omega) (fun hc2 => ?_) (fun hc2 => ?_)
        · skip
          have hz := z_if0.mp hc2
          refine z_iinc C 0 [(2, .int (z_I (j + 1))), (1, .int (z_I a)), (0, .ref hR)] dX3_trueOnes_23 rfl (by decide) rfl ?_
          refine z_goto C 4 dX3_trueOnes_26 (by decide) ?_
          exact ih4 (j + 1) a (by first | assumption | omega) (by rw [z_it_next _ _ hj.1, ← ha]; first | rw [if_pos hz] | rw [if_neg hz]) (by omega)
        · skip
          have hz := z_if1.mp hc2
          refine z_iinc C 1 [(1, .int (z_I (a + 1))), (2, .int (z_I j)), (0, .ref hR)] dX3_trueOnes_20 rfl (by decide) rfl ?_
          refine z_iinc C 1 [(2, .int (z_I (j + 1))), (1, .int (z_I (a + 1))), (0, .ref hR)] dX3_trueOnes_23 rfl (by decide) rfl ?_
          refine z_goto C 4 dX3_trueOnes_26 (by decide) ?_
          exact ih4 (j + 1) (a + 1) (by first | assumption | omega) (by rw [z_it_next _ _ hj.1, ← ha]; first | rw [if_pos hz] | rw [if_neg hz]) (by omega)
  exact loop4 (rn.toNat + 1) 0 0 (by first | assumption | omega) rfl (by omega)
theorem zi_X4_copyFrom_X4 : ∀ w ∈ u_ws RX4 TX4 5, w ∈ wsX4_copyFrom := by decide +kernel
theorem zl_X4_copyFrom_15 : Cond.fieldLink RX4 15 "RippleCounts$Sightings" "often" "[I" ∈ wsX4_copyFrom := by decide +kernel
theorem zl_X4_copyFrom_18 : Cond.fieldLink RX4 18 "RippleCounts$Sightings" "flashes" "[I" ∈ wsX4_copyFrom := by decide +kernel
theorem zl_X4_copyFrom_21 : Cond.fieldLink RX4 21 "RippleCounts$Sightings" "firstTimes" "[I" ∈ wsX4_copyFrom := by decide +kernel
theorem zl_X4_copyFrom_24 : Cond.fieldLink RX4 24 "RippleCounts$Sightings" "size" "I" ∈ wsX4_copyFrom := by decide +kernel
theorem zl_X4_copyFrom_28i : Cond.initialized "java/lang/System" ∈ wsX4_copyFrom := by decide +kernel
theorem zl_X4_copyFrom_28k : Cond.methodLink RX4 28 arraycopyName ∈ wsX4_copyFrom := by decide +kernel
theorem zl_X4_copyFrom_28n : Cond.native arraycopyName ∈ wsX4_copyFrom := by decide +kernel
theorem zl_X4_copyFrom_28s : Cond.static arraycopyName ∈ wsX4_copyFrom := by decide +kernel
theorem zl_X4_copyFrom_9 : Cond.fieldLink RX4 9 "RippleCounts$Sightings" "ranked" "[I" ∈ wsX4_copyFrom := by decide +kernel
theorem zd_X4_copyFrom : yX4_copyFrom.cls ≠ "java/lang/invoke/MethodHandle" ∧ yX4_copyFrom.cls ≠ "java/lang/invoke/VarHandle" ∧ (parseMethodDescriptor yX4_copyFrom.desc).map (fun d => d.parameters.length) = some 1 := by decide +kernel
set_option maxHeartbeats 4000000 in
set_option maxRecDepth 100000 in
theorem c_X4_copyFrom (l : Launch) (D : va_G) (cI cZ cO : ClassId) (hS aS1 aS2 aS3 aS4 : Nat) (sn : Int) (rk fo fl ft : Int → Int) (hSo aS1o aS2o aS3o aS4o : Nat) (sno : Int) (rko foo flo fto : Int → Int) : z_Mv l yX4_copyFrom wsX4_copyFrom 1 40 D (z_T cI cZ cO) [.ref hS, .ref hSo] ([(hS, .inr (4, [.int (z_I sn), .ref aS1, .ref aS2, .ref aS3, .ref aS4])), (aS1, z_ai cI 32 rk), (aS2, z_ai cI 32 fo), (aS3, z_ai cI 32 fl), (aS4, z_ai cI 32 ft), (hSo, .inr (4, [.int (z_I sno), .ref aS1o, .ref aS2o, .ref aS3o, .ref aS4o])), (aS1o, z_ai cI 32 rko), (aS2o, z_ai cI 32 foo), (aS3o, z_ai cI 32 flo), (aS4o, z_ai cI 32 fto)]) ([(hS, .inr (4, [.int (z_I sno), .ref aS1, .ref aS2, .ref aS3, .ref aS4])), (aS1, z_ai cI 32 rko), (aS2, z_ai cI 32 foo), (aS3, z_ai cI 32 flo), (aS4, z_ai cI 32 fto), (hSo, .inr (4, [.int (z_I sno), .ref aS1o, .ref aS2o, .ref aS3o, .ref aS4o])), (aS1o, z_ai cI 32 rko), (aS2o, z_ai cI 32 foo), (aS3o, z_ai cI 32 flo), (aS4o, z_ai cI 32 fto)]) := by
  refine z_Mv_of (cc := cX4_copyFrom) (nL := 2) (ret := none) (by decide +kernel) rfl (Nat.le_of_ble_eq_true rfl) ?_
  intro p e s m args below meth c A Q C hQ
  change z_V p l e { frames := 1, cells := 0, slots := 0, locals := 40 } s m args below meth c D A 2 0 0 Q ([(hS, .inr (4, [.int (z_I sn), .ref aS1, .ref aS2, .ref aS3, .ref aS4])), (aS1, z_ai cI 32 rk), (aS2, z_ai cI 32 fo), (aS3, z_ai cI 32 fl), (aS4, z_ai cI 32 ft), (hSo, .inr (4, [.int (z_I sno), .ref aS1o, .ref aS2o, .ref aS3o, .ref aS4o])), (aS1o, z_ai cI 32 rko), (aS2o, z_ai cI 32 foo), (aS3o, z_ai cI 32 flo), (aS4o, z_ai cI 32 fto)]) 0 [(0, .ref hS), (1, .ref hSo)] []
  refine z_aload_n C 0 dX4_copyFrom_0 rfl ?_
  refine z_aload_n C 1 dX4_copyFrom_1 rfl ?_
  refine z_get C 5 0 zi_X4_copyFrom_X4 rfl rfl (by decide) zl_X4_copyFrom_24 rfl rfl dX4_copyFrom_2 ?_
  refine z_put C 0 0 ([(hS, .inr (4, [.int (z_I sno), .ref aS1, .ref aS2, .ref aS3, .ref aS4])), (aS1, z_ai cI 32 rk), (aS2, z_ai cI 32 fo), (aS3, z_ai cI 32 fl), (aS4, z_ai cI 32 ft), (hSo, .inr (4, [.int (z_I sno), .ref aS1o, .ref aS2o, .ref aS3o, .ref aS4o])), (aS1o, z_ai cI 32 rko), (aS2o, z_ai cI 32 foo), (aS3o, z_ai cI 32 flo), (aS4o, z_ai cI 32 fto)]) zi_X4_copyFrom_X4 tyX4_ok nmX4 rfl rfl (by decide) zl_X4_copyFrom_24 rfl rfl rfl rfl (Nat.le_of_ble_eq_true rfl) rfl dX4_copyFrom_5 ?_
  refine z_aload_n C 1 dX4_copyFrom_8 rfl ?_
  refine z_get C 5 1 zi_X4_copyFrom_X4 rfl rfl (by decide) zl_X4_copyFrom_9 rfl rfl dX4_copyFrom_9 ?_
  refine z_iconst C 0 dX4_copyFrom_12 ?_
  refine z_aload_n C 0 dX4_copyFrom_13 rfl ?_
  refine z_get C 0 1 zi_X4_copyFrom_X4 rfl rfl (by decide) zl_X4_copyFrom_9 rfl rfl dX4_copyFrom_14 ?_
  refine z_iconst C 0 dX4_copyFrom_17 ?_
  refine z_bipush C 32 dX4_copyFrom_18 (by decide) ?_
  refine z_copy C 6 1 0 [(hS, .inr (4, [.int (z_I sno), .ref aS1, .ref aS2, .ref aS3, .ref aS4])), (aS1, z_ai cI 32 (z_cp rko rk 0 0 32)), (aS2, z_ai cI 32 fo), (aS3, z_ai cI 32 fl), (aS4, z_ai cI 32 ft), (hSo, .inr (4, [.int (z_I sno), .ref aS1o, .ref aS2o, .ref aS3o, .ref aS4o])), (aS1o, z_ai cI 32 rko), (aS2o, z_ai cI 32 foo), (aS3o, z_ai cI 32 flo), (aS4o, z_ai cI 32 fto)] .int zl_X4_copyFrom_28k zl_X4_copyFrom_28n zl_X4_copyFrom_28s zl_X4_copyFrom_28i rfl rfl rfl rfl (by omega) (fun _ _ _ => rfl) (by decide) rfl dX4_copyFrom_20 ?_
  refine z_arr (c := c) 1 rko [(hS, .inr (4, [.int (z_I sno), .ref aS1, .ref aS2, .ref aS3, .ref aS4])), (aS1, z_ai cI 32 rko), (aS2, z_ai cI 32 fo), (aS3, z_ai cI 32 fl), (aS4, z_ai cI 32 ft), (hSo, .inr (4, [.int (z_I sno), .ref aS1o, .ref aS2o, .ref aS3o, .ref aS4o])), (aS1o, z_ai cI 32 rko), (aS2o, z_ai cI 32 foo), (aS3o, z_ai cI 32 flo), (aS4o, z_ai cI 32 fto)] rfl (fun i h1 h2 => z_cp_full h1 (by omega)) rfl ?_
  refine z_aload_n C 1 dX4_copyFrom_23 rfl ?_
  refine z_get C 5 2 zi_X4_copyFrom_X4 rfl rfl (by decide) zl_X4_copyFrom_15 rfl rfl dX4_copyFrom_24 ?_
  refine z_iconst C 0 dX4_copyFrom_27 ?_
  refine z_aload_n C 0 dX4_copyFrom_28 rfl ?_
  refine z_get C 0 2 zi_X4_copyFrom_X4 rfl rfl (by decide) zl_X4_copyFrom_15 rfl rfl dX4_copyFrom_29 ?_
  refine z_iconst C 0 dX4_copyFrom_32 ?_
  refine z_bipush C 32 dX4_copyFrom_33 (by decide) ?_
  refine z_copy C 7 2 0 [(hS, .inr (4, [.int (z_I sno), .ref aS1, .ref aS2, .ref aS3, .ref aS4])), (aS1, z_ai cI 32 rko), (aS2, z_ai cI 32 (z_cp foo fo 0 0 32)), (aS3, z_ai cI 32 fl), (aS4, z_ai cI 32 ft), (hSo, .inr (4, [.int (z_I sno), .ref aS1o, .ref aS2o, .ref aS3o, .ref aS4o])), (aS1o, z_ai cI 32 rko), (aS2o, z_ai cI 32 foo), (aS3o, z_ai cI 32 flo), (aS4o, z_ai cI 32 fto)] .int zl_X4_copyFrom_28k zl_X4_copyFrom_28n zl_X4_copyFrom_28s zl_X4_copyFrom_28i rfl rfl rfl rfl (by omega) (fun _ _ _ => rfl) (by decide) rfl dX4_copyFrom_35 ?_
  refine z_arr (c := c) 2 foo [(hS, .inr (4, [.int (z_I sno), .ref aS1, .ref aS2, .ref aS3, .ref aS4])), (aS1, z_ai cI 32 rko), (aS2, z_ai cI 32 foo), (aS3, z_ai cI 32 fl), (aS4, z_ai cI 32 ft), (hSo, .inr (4, [.int (z_I sno), .ref aS1o, .ref aS2o, .ref aS3o, .ref aS4o])), (aS1o, z_ai cI 32 rko), (aS2o, z_ai cI 32 foo), (aS3o, z_ai cI 32 flo), (aS4o, z_ai cI 32 fto)] rfl (fun i h1 h2 => z_cp_full h1 (by omega)) rfl ?_
  refine z_aload_n C 1 dX4_copyFrom_38 rfl ?_
  refine z_get C 5 3 zi_X4_copyFrom_X4 rfl rfl (by decide) zl_X4_copyFrom_18 rfl rfl dX4_copyFrom_39 ?_
  refine z_iconst C 0 dX4_copyFrom_42 ?_
  refine z_aload_n C 0 dX4_copyFrom_43 rfl ?_
  refine z_get C 0 3 zi_X4_copyFrom_X4 rfl rfl (by decide) zl_X4_copyFrom_18 rfl rfl dX4_copyFrom_44 ?_
  refine z_iconst C 0 dX4_copyFrom_47 ?_
  refine z_bipush C 32 dX4_copyFrom_48 (by decide) ?_
  refine z_copy C 8 3 0 [(hS, .inr (4, [.int (z_I sno), .ref aS1, .ref aS2, .ref aS3, .ref aS4])), (aS1, z_ai cI 32 rko), (aS2, z_ai cI 32 foo), (aS3, z_ai cI 32 (z_cp flo fl 0 0 32)), (aS4, z_ai cI 32 ft), (hSo, .inr (4, [.int (z_I sno), .ref aS1o, .ref aS2o, .ref aS3o, .ref aS4o])), (aS1o, z_ai cI 32 rko), (aS2o, z_ai cI 32 foo), (aS3o, z_ai cI 32 flo), (aS4o, z_ai cI 32 fto)] .int zl_X4_copyFrom_28k zl_X4_copyFrom_28n zl_X4_copyFrom_28s zl_X4_copyFrom_28i rfl rfl rfl rfl (by omega) (fun _ _ _ => rfl) (by decide) rfl dX4_copyFrom_50 ?_
  refine z_arr (c := c) 3 flo [(hS, .inr (4, [.int (z_I sno), .ref aS1, .ref aS2, .ref aS3, .ref aS4])), (aS1, z_ai cI 32 rko), (aS2, z_ai cI 32 foo), (aS3, z_ai cI 32 flo), (aS4, z_ai cI 32 ft), (hSo, .inr (4, [.int (z_I sno), .ref aS1o, .ref aS2o, .ref aS3o, .ref aS4o])), (aS1o, z_ai cI 32 rko), (aS2o, z_ai cI 32 foo), (aS3o, z_ai cI 32 flo), (aS4o, z_ai cI 32 fto)] rfl (fun i h1 h2 => z_cp_full h1 (by omega)) rfl ?_
  refine z_aload_n C 1 dX4_copyFrom_53 rfl ?_
  refine z_get C 5 4 zi_X4_copyFrom_X4 rfl rfl (by decide) zl_X4_copyFrom_21 rfl rfl dX4_copyFrom_54 ?_
  refine z_iconst C 0 dX4_copyFrom_57 ?_
  refine z_aload_n C 0 dX4_copyFrom_58 rfl ?_
  refine z_get C 0 4 zi_X4_copyFrom_X4 rfl rfl (by decide) zl_X4_copyFrom_21 rfl rfl dX4_copyFrom_59 ?_
  refine z_iconst C 0 dX4_copyFrom_62 ?_
  refine z_bipush C 32 dX4_copyFrom_63 (by decide) ?_
  refine z_copy C 9 4 0 [(hS, .inr (4, [.int (z_I sno), .ref aS1, .ref aS2, .ref aS3, .ref aS4])), (aS1, z_ai cI 32 rko), (aS2, z_ai cI 32 foo), (aS3, z_ai cI 32 flo), (aS4, z_ai cI 32 (z_cp fto ft 0 0 32)), (hSo, .inr (4, [.int (z_I sno), .ref aS1o, .ref aS2o, .ref aS3o, .ref aS4o])), (aS1o, z_ai cI 32 rko), (aS2o, z_ai cI 32 foo), (aS3o, z_ai cI 32 flo), (aS4o, z_ai cI 32 fto)] .int zl_X4_copyFrom_28k zl_X4_copyFrom_28n zl_X4_copyFrom_28s zl_X4_copyFrom_28i rfl rfl rfl rfl (by omega) (fun _ _ _ => rfl) (by decide) rfl dX4_copyFrom_65 ?_
  refine z_arr (c := c) 4 fto [(hS, .inr (4, [.int (z_I sno), .ref aS1, .ref aS2, .ref aS3, .ref aS4])), (aS1, z_ai cI 32 rko), (aS2, z_ai cI 32 foo), (aS3, z_ai cI 32 flo), (aS4, z_ai cI 32 fto), (hSo, .inr (4, [.int (z_I sno), .ref aS1o, .ref aS2o, .ref aS3o, .ref aS4o])), (aS1o, z_ai cI 32 rko), (aS2o, z_ai cI 32 foo), (aS3o, z_ai cI 32 flo), (aS4o, z_ai cI 32 fto)] rfl (fun i h1 h2 => z_cp_full h1 (by omega)) rfl ?_
  exact z_vret C hQ rfl dX4_copyFrom_68
theorem zi_X4_clear_X4 : ∀ w ∈ u_ws RX4 TX4 5, w ∈ wsX4_clear := by decide +kernel
theorem zl_X4_clear_15 : Cond.fieldLink RX4 15 "RippleCounts$Sightings" "often" "[I" ∈ wsX4_clear := by decide +kernel
theorem zl_X4_clear_18 : Cond.fieldLink RX4 18 "RippleCounts$Sightings" "flashes" "[I" ∈ wsX4_clear := by decide +kernel
theorem zl_X4_clear_24 : Cond.fieldLink RX4 24 "RippleCounts$Sightings" "size" "I" ∈ wsX4_clear := by decide +kernel
theorem zd_X4_clear : yX4_clear.cls ≠ "java/lang/invoke/MethodHandle" ∧ yX4_clear.cls ≠ "java/lang/invoke/VarHandle" ∧ (parseMethodDescriptor yX4_clear.desc).map (fun d => d.parameters.length) = some 0 := by decide +kernel
set_option maxHeartbeats 4000000 in
set_option maxRecDepth 100000 in
theorem c_X4_clear (l : Launch) (D : va_G) (cI cZ cO : ClassId) (hS aS1 aS2 aS3 aS4 : Nat) (sn : Int) (rk fo fl ft : Int → Int) : z_Mv l yX4_clear wsX4_clear 1 23 D (z_T cI cZ cO) [.ref hS] ([(hS, .inr (4, [.int (z_I sn), .ref aS1, .ref aS2, .ref aS3, .ref aS4])), (aS1, z_ai cI 32 rk), (aS2, z_ai cI 32 fo), (aS3, z_ai cI 32 fl), (aS4, z_ai cI 32 ft)]) ([(hS, .inr (4, [.int (z_I 0), .ref aS1, .ref aS2, .ref aS3, .ref aS4])), (aS1, z_ai cI 32 rk), (aS2, z_ai cI 32 (fun _ => 0)), (aS3, z_ai cI 32 (fun _ => 0)), (aS4, z_ai cI 32 ft)]) := by
  refine z_Mv_of (cc := cX4_clear) (nL := 1) (ret := none) (by decide +kernel) rfl (Nat.le_of_ble_eq_true rfl) ?_
  intro p e s m args below meth c A Q C hQ
  change z_V p l e { frames := 1, cells := 0, slots := 0, locals := 23 } s m args below meth c D A 1 0 0 Q ([(hS, .inr (4, [.int (z_I sn), .ref aS1, .ref aS2, .ref aS3, .ref aS4])), (aS1, z_ai cI 32 rk), (aS2, z_ai cI 32 fo), (aS3, z_ai cI 32 fl), (aS4, z_ai cI 32 ft)]) 0 [(0, .ref hS)] []
  refine z_aload_n C 0 dX4_clear_0 rfl ?_
  refine z_iconst C 0 dX4_clear_1 ?_
  refine z_put C 0 0 ([(hS, .inr (4, [.int (z_I 0), .ref aS1, .ref aS2, .ref aS3, .ref aS4])), (aS1, z_ai cI 32 rk), (aS2, z_ai cI 32 fo), (aS3, z_ai cI 32 fl), (aS4, z_ai cI 32 ft)]) zi_X4_clear_X4 tyX4_ok nmX4 rfl rfl (by decide) zl_X4_clear_24 rfl rfl rfl rfl (Nat.le_of_ble_eq_true rfl) rfl dX4_clear_2 ?_
  refine z_aload_n C 0 dX4_clear_5 rfl ?_
  refine z_get C 0 2 zi_X4_clear_X4 rfl rfl (by decide) zl_X4_clear_15 rfl rfl dX4_clear_6 ?_
  refine z_iconst C 0 dX4_clear_9 ?_
  refine z_callSv C [2] [(hS, .inr (4, [.int (z_I 0), .ref aS1, .ref aS2, .ref aS3, .ref aS4])), (aS1, z_ai cI 32 rk), (aS2, z_ai cI 32 (fun _ => 0)), (aS3, z_ai cI 32 fl), (aS4, z_ai cI 32 ft)] [.ref aS2, .int (z_I 0)] [] (c_J7_fill_53178_32 l D cI cZ cO aS2 fo 0 ) gX4_clear_J7_fill_53178 rfl zd_J7_fill_53178 rfl (by decide) rfl (by decide) rfl rfl rfl (Nat.le_of_ble_eq_true rfl) (by decide) dX4_clear_10 ?_
  refine z_aload_n C 0 dX4_clear_13 rfl ?_
  refine z_get C 0 3 zi_X4_clear_X4 rfl rfl (by decide) zl_X4_clear_18 rfl rfl dX4_clear_14 ?_
  refine z_iconst C 0 dX4_clear_17 ?_
  refine z_callSv C [3] [(hS, .inr (4, [.int (z_I 0), .ref aS1, .ref aS2, .ref aS3, .ref aS4])), (aS1, z_ai cI 32 rk), (aS2, z_ai cI 32 (fun _ => 0)), (aS3, z_ai cI 32 (fun _ => 0)), (aS4, z_ai cI 32 ft)] [.ref aS3, .int (z_I 0)] [] (c_J7_fill_53178_32 l D cI cZ cO aS3 fl 0 ) gX4_clear_J7_fill_53178 rfl zd_J7_fill_53178 rfl (by decide) rfl (by decide) rfl rfl rfl (Nat.le_of_ble_eq_true rfl) (by decide) dX4_clear_18 ?_
  exact z_vret C hQ rfl dX4_clear_21
theorem zi_X4_add_X4 : ∀ w ∈ u_ws RX4 TX4 5, w ∈ wsX4_add := by decide +kernel
theorem zl_X4_add_15 : Cond.fieldLink RX4 15 "RippleCounts$Sightings" "often" "[I" ∈ wsX4_add := by decide +kernel
theorem zl_X4_add_18 : Cond.fieldLink RX4 18 "RippleCounts$Sightings" "flashes" "[I" ∈ wsX4_add := by decide +kernel
theorem zl_X4_add_21 : Cond.fieldLink RX4 21 "RippleCounts$Sightings" "firstTimes" "[I" ∈ wsX4_add := by decide +kernel
theorem zl_X4_add_24 : Cond.fieldLink RX4 24 "RippleCounts$Sightings" "size" "I" ∈ wsX4_add := by decide +kernel
theorem zl_X4_add_9 : Cond.fieldLink RX4 9 "RippleCounts$Sightings" "ranked" "[I" ∈ wsX4_add := by decide +kernel
theorem zd_X4_add : yX4_add.cls ≠ "java/lang/invoke/MethodHandle" ∧ yX4_add.cls ≠ "java/lang/invoke/VarHandle" ∧ (parseMethodDescriptor yX4_add.desc).map (fun d => d.parameters.length) = some 3 := by decide +kernel
set_option maxHeartbeats 4000000 in
set_option maxRecDepth 100000 in
theorem c_X4_add (l : Launch) (D : va_G) (cI cZ cO : ClassId) (hS aS1 aS2 aS3 aS4 : Nat) (sn : Int) (rk fo fl ft : Int → Int) (nb tm fb : Int) (hb : 0 ≤ nb ∧ nb < 32) (hsn : 0 ≤ sn ∧ sn ≤ 32) (hfo : 0 ≤ fo nb ∧ fo nb < 1000000) (hnew : fo nb = 0 → sn < 32) (hfb : fb = 0 ∨ fb = 1) : z_Mv l yX4_add wsX4_add 0 0 D (z_T cI cZ cO) [.ref hS, .int (z_I nb), .int (z_I tm), .int (z_I fb)] ([(hS, .inr (4, [.int (z_I sn), .ref aS1, .ref aS2, .ref aS3, .ref aS4])), (aS1, z_ai cI 32 rk), (aS2, z_ai cI 32 fo), (aS3, z_ai cI 32 fl), (aS4, z_ai cI 32 ft)]) ([(hS, .inr (4, [.int (z_I (if fo nb = 0 then sn + 1 else sn)), .ref aS1, .ref aS2, .ref aS3, .ref aS4])), (aS1, z_ai cI 32 (if fo nb = 0 then z_u rk sn nb else rk)), (aS2, z_ai cI 32 (z_u fo nb (fo nb + 1))), (aS3, z_ai cI 32 (if fb = 0 then fl else z_u fl nb (fl nb + 1))), (aS4, z_ai cI 32 (if fo nb = 0 then z_u ft nb tm else ft))]) := by
  refine z_Mv_of (cc := cX4_add) (nL := 4) (ret := none) (by decide +kernel) rfl (Nat.le_of_ble_eq_true rfl) ?_
  intro p e s m args below meth c A Q C hQ
  change z_V p l e { frames := 0, cells := 0, slots := 0, locals := 0 } s m args below meth c D A 4 0 0 Q ([(hS, .inr (4, [.int (z_I sn), .ref aS1, .ref aS2, .ref aS3, .ref aS4])), (aS1, z_ai cI 32 rk), (aS2, z_ai cI 32 fo), (aS3, z_ai cI 32 fl), (aS4, z_ai cI 32 ft)]) 0 [(0, .ref hS), (1, .int (z_I nb)), (2, .int (z_I tm)), (3, .int (z_I fb))] []
  refine z_iload_n C 1 dX4_add_0 rfl ?_
  refine z_if_lt C 10 dX4_add_1 (by decide) (by omega) (fun hc1 => ?_) (fun hc1 => ?_)
  · exfalso; omega
  · skip
    refine z_iload_n C 1 dX4_add_4 rfl ?_
    refine z_bipush C 32 dX4_add_5 (by decide) ?_
    refine z_icmp_lt C 11 dX4_add_7 (by decide) (by omega) (by omega) (fun hc2 => ?_) (fun hc2 => ?_)
    · skip
      refine z_aload_n C 0 dX4_add_11 rfl ?_
      refine z_get C 0 2 zi_X4_add_X4 rfl rfl (by decide) zl_X4_add_15 rfl rfl dX4_add_12 ?_
      refine z_iload_n C 1 dX4_add_15 rfl ?_
      refine z_iald C 2 0 rfl rfl (by decide) (by omega) dX4_add_16 ?_
      refine z_if_ne C 56 dX4_add_17 (by decide) (by omega) (fun hc3 => ?_) (fun hc3 => ?_)
      · skip
        have hz : ¬ fo nb = 0 := hc3
        refine z_aload_n C 0 dX4_add_56 rfl ?_
        refine z_get C 0 2 zi_X4_add_X4 rfl rfl (by decide) zl_X4_add_15 rfl rfl dX4_add_57 ?_
        refine z_iload_n C 1 dX4_add_60 rfl ?_
        refine z_dup2 C dX4_add_61 rfl rfl ?_
        refine z_iald C 2 0 rfl rfl (by decide) (by omega) dX4_add_62 ?_
        refine z_iconst C 1 dX4_add_63 ?_
        refine z_iadd C dX4_add_64 ?_
        refine z_iast C 2 0 ([(hS, .inr (4, [.int (z_I sn), .ref aS1, .ref aS2, .ref aS3, .ref aS4])), (aS1, z_ai cI 32 rk), (aS2, z_ai cI 32 (z_u fo nb ((fo nb) + 1))), (aS3, z_ai cI 32 fl), (aS4, z_ai cI 32 ft)]) rfl rfl (by decide) (by omega) rfl dX4_add_65 ?_
        refine z_iload_n C 3 dX4_add_66 rfl ?_
        refine z_if_eq C 80 dX4_add_67 (by decide) (by omega) (fun hc4 => ?_) (fun hc4 => ?_)
        · skip
          have hy : fb = 0 := hc4
          exact z_vret C hQ (by first | rw [if_pos hz, if_pos hz, if_pos hz, if_pos hy] | rw [if_pos hz, if_pos hz, if_pos hz, if_neg hy] | rw [if_neg hz, if_neg hz, if_neg hz, if_pos hy] | rw [if_neg hz, if_neg hz, if_neg hz, if_neg hy]) dX4_add_80
        · skip
          have hy : ¬ fb = 0 := hc4
          refine z_aload_n C 0 dX4_add_70 rfl ?_
          refine z_get C 0 3 zi_X4_add_X4 rfl rfl (by decide) zl_X4_add_18 rfl rfl dX4_add_71 ?_
          refine z_iload_n C 1 dX4_add_74 rfl ?_
          refine z_dup2 C dX4_add_75 rfl rfl ?_
          refine z_iald C 3 0 rfl rfl (by decide) (by omega) dX4_add_76 ?_
          refine z_iconst C 1 dX4_add_77 ?_
          refine z_iadd C dX4_add_78 ?_
          refine z_iast C 3 0 ([(hS, .inr (4, [.int (z_I sn), .ref aS1, .ref aS2, .ref aS3, .ref aS4])), (aS1, z_ai cI 32 rk), (aS2, z_ai cI 32 (z_u fo nb ((fo nb) + 1))), (aS3, z_ai cI 32 (z_u fl nb ((fl nb) + 1))), (aS4, z_ai cI 32 ft)]) rfl rfl (by decide) (by omega) rfl dX4_add_79 ?_
          exact z_vret C hQ (by first | rw [if_pos hz, if_pos hz, if_pos hz, if_pos hy] | rw [if_pos hz, if_pos hz, if_pos hz, if_neg hy] | rw [if_neg hz, if_neg hz, if_neg hz, if_pos hy] | rw [if_neg hz, if_neg hz, if_neg hz, if_neg hy]) dX4_add_80
      · skip
        have hz : fo nb = 0 := by omega
        refine z_aload_n C 0 dX4_add_20 rfl ?_
        refine z_get C 0 0 zi_X4_add_X4 rfl rfl (by decide) zl_X4_add_24 rfl rfl dX4_add_21 ?_
        refine z_bipush C 32 dX4_add_24 (by decide) ?_
        refine z_icmp_ge C 56 dX4_add_26 (by decide) (by omega) (by omega) (fun hc5 => ?_) (fun hc5 => ?_)
        · exfalso; have := hnew hz; omega
        · skip
          refine z_aload_n C 0 dX4_add_29 rfl ?_
          refine z_get C 0 1 zi_X4_add_X4 rfl rfl (by decide) zl_X4_add_9 rfl rfl dX4_add_30 ?_
          refine z_aload_n C 0 dX4_add_33 rfl ?_
          refine z_get C 0 0 zi_X4_add_X4 rfl rfl (by decide) zl_X4_add_24 rfl rfl dX4_add_34 ?_
          refine z_iload_n C 1 dX4_add_37 rfl ?_
          refine z_iast C 1 0 ([(hS, .inr (4, [.int (z_I sn), .ref aS1, .ref aS2, .ref aS3, .ref aS4])), (aS1, z_ai cI 32 (z_u rk sn nb)), (aS2, z_ai cI 32 fo), (aS3, z_ai cI 32 fl), (aS4, z_ai cI 32 ft)]) rfl rfl (by decide) (by omega) rfl dX4_add_38 ?_
          refine z_aload_n C 0 dX4_add_39 rfl ?_
          refine z_get C 0 4 zi_X4_add_X4 rfl rfl (by decide) zl_X4_add_21 rfl rfl dX4_add_40 ?_
          refine z_iload_n C 1 dX4_add_43 rfl ?_
          refine z_iload_n C 2 dX4_add_44 rfl ?_
          refine z_iast C 4 0 ([(hS, .inr (4, [.int (z_I sn), .ref aS1, .ref aS2, .ref aS3, .ref aS4])), (aS1, z_ai cI 32 (z_u rk sn nb)), (aS2, z_ai cI 32 fo), (aS3, z_ai cI 32 fl), (aS4, z_ai cI 32 (z_u ft nb tm))]) rfl rfl (by decide) (by omega) rfl dX4_add_45 ?_
          refine z_aload_n C 0 dX4_add_46 rfl ?_
          refine z_dup C dX4_add_47 rfl ?_
          refine z_get C 0 0 zi_X4_add_X4 rfl rfl (by decide) zl_X4_add_24 rfl rfl dX4_add_48 ?_
          refine z_iconst C 1 dX4_add_51 ?_
          refine z_iadd C dX4_add_52 ?_
          refine z_put C 0 0 ([(hS, .inr (4, [.int (z_I (sn + 1)), .ref aS1, .ref aS2, .ref aS3, .ref aS4])), (aS1, z_ai cI 32 (z_u rk sn nb)), (aS2, z_ai cI 32 fo), (aS3, z_ai cI 32 fl), (aS4, z_ai cI 32 (z_u ft nb tm))]) zi_X4_add_X4 tyX4_ok nmX4 rfl rfl (by decide) zl_X4_add_24 rfl rfl rfl rfl (Nat.le_of_ble_eq_true rfl) rfl dX4_add_53 ?_
          refine z_aload_n C 0 dX4_add_56 rfl ?_
          refine z_get C 0 2 zi_X4_add_X4 rfl rfl (by decide) zl_X4_add_15 rfl rfl dX4_add_57 ?_
          refine z_iload_n C 1 dX4_add_60 rfl ?_
          refine z_dup2 C dX4_add_61 rfl rfl ?_
          refine z_iald C 2 0 rfl rfl (by decide) (by omega) dX4_add_62 ?_
          refine z_iconst C 1 dX4_add_63 ?_
          refine z_iadd C dX4_add_64 ?_
          refine z_iast C 2 0 ([(hS, .inr (4, [.int (z_I (sn + 1)), .ref aS1, .ref aS2, .ref aS3, .ref aS4])), (aS1, z_ai cI 32 (z_u rk sn nb)), (aS2, z_ai cI 32 (z_u fo nb ((fo nb) + 1))), (aS3, z_ai cI 32 fl), (aS4, z_ai cI 32 (z_u ft nb tm))]) rfl rfl (by decide) (by omega) rfl dX4_add_65 ?_
          refine z_iload_n C 3 dX4_add_66 rfl ?_
          refine z_if_eq C 80 dX4_add_67 (by decide) (by omega) (fun hc6 => ?_) (fun hc6 => ?_)
          · skip
            have hy : fb = 0 := hc6
            exact z_vret C hQ (by first | rw [if_pos hz, if_pos hz, if_pos hz, if_pos hy] | rw [if_pos hz, if_pos hz, if_pos hz, if_neg hy] | rw [if_neg hz, if_neg hz, if_neg hz, if_pos hy] | rw [if_neg hz, if_neg hz, if_neg hz, if_neg hy]) dX4_add_80
          · skip
            have hy : ¬ fb = 0 := hc6
            refine z_aload_n C 0 dX4_add_70 rfl ?_
            refine z_get C 0 3 zi_X4_add_X4 rfl rfl (by decide) zl_X4_add_18 rfl rfl dX4_add_71 ?_
            refine z_iload_n C 1 dX4_add_74 rfl ?_
            refine z_dup2 C dX4_add_75 rfl rfl ?_
            refine z_iald C 3 0 rfl rfl (by decide) (by omega) dX4_add_76 ?_
            refine z_iconst C 1 dX4_add_77 ?_
            refine z_iadd C dX4_add_78 ?_
            refine z_iast C 3 0 ([(hS, .inr (4, [.int (z_I (sn + 1)), .ref aS1, .ref aS2, .ref aS3, .ref aS4])), (aS1, z_ai cI 32 (z_u rk sn nb)), (aS2, z_ai cI 32 (z_u fo nb ((fo nb) + 1))), (aS3, z_ai cI 32 (z_u fl nb ((fl nb) + 1))), (aS4, z_ai cI 32 (z_u ft nb tm))]) rfl rfl (by decide) (by omega) rfl dX4_add_79 ?_
            exact z_vret C hQ (by first | rw [if_pos hz, if_pos hz, if_pos hz, if_pos hy] | rw [if_pos hz, if_pos hz, if_pos hz, if_neg hy] | rw [if_neg hz, if_neg hz, if_neg hz, if_pos hy] | rw [if_neg hz, if_neg hz, if_neg hz, if_neg hy]) dX4_add_80
    · exfalso; omega
theorem zi_X4_tell_X4 : ∀ w ∈ u_ws RX4 TX4 5, w ∈ wsX4_tell := by decide +kernel
theorem zl_X4_tell_15 : Cond.fieldLink RX4 15 "RippleCounts$Sightings" "often" "[I" ∈ wsX4_tell := by decide +kernel
theorem zl_X4_tell_18 : Cond.fieldLink RX4 18 "RippleCounts$Sightings" "flashes" "[I" ∈ wsX4_tell := by decide +kernel
theorem zl_X4_tell_21 : Cond.fieldLink RX4 21 "RippleCounts$Sightings" "firstTimes" "[I" ∈ wsX4_tell := by decide +kernel
theorem zl_X4_tell_24 : Cond.fieldLink RX4 24 "RippleCounts$Sightings" "size" "I" ∈ wsX4_tell := by decide +kernel
theorem zl_X4_tell_9 : Cond.fieldLink RX4 9 "RippleCounts$Sightings" "ranked" "[I" ∈ wsX4_tell := by decide +kernel
theorem zd_X4_tell : yX4_tell.cls ≠ "java/lang/invoke/MethodHandle" ∧ yX4_tell.cls ≠ "java/lang/invoke/VarHandle" ∧ (parseMethodDescriptor yX4_tell.desc).map (fun d => d.parameters.length) = some 2 := by decide +kernel
set_option maxHeartbeats 4000000 in
set_option maxRecDepth 100000 in
theorem c_X4_tell (l : Launch) (D : va_G) (cI cZ cO : ClassId) (hS aS1 aS2 aS3 aS4 : Nat) (sn : Int) (rk fo fl ft : Int → Int) (k w : Int) (hk : -2147483648 ≤ k ∧ k < 2147483648) (hw : -2147483648 ≤ w ∧ w < 2147483648) (hn : 0 ≤ sn ∧ sn ≤ 32) (hrk : ∀ i : Int, 0 ≤ i → i < sn → 0 ≤ rk i ∧ rk i < 32) : z_Mi l yX4_tell wsX4_tell 0 0 D (z_T cI cZ cO) [.ref hS, .int (z_I k), .int (z_I w)] ([(hS, .inr (4, [.int (z_I sn), .ref aS1, .ref aS2, .ref aS3, .ref aS4])), (aS1, z_ai cI 32 rk), (aS2, z_ai cI 32 fo), (aS3, z_ai cI 32 fl), (aS4, z_ai cI 32 ft)]) ([(hS, .inr (4, [.int (z_I sn), .ref aS1, .ref aS2, .ref aS3, .ref aS4])), (aS1, z_ai cI 32 rk), (aS2, z_ai cI 32 fo), (aS3, z_ai cI 32 fl), (aS4, z_ai cI 32 ft)]) (if 0 ≤ k ∧ k < sn then (if w = 0 then rk k else if w = 1 then fo (rk k) else if w = 2 then fl (rk k) else if w = 3 then ft (rk k) else -2) else -1) := by
  refine z_Mi_of (cc := cX4_tell) (nL := 4) (ret := (some .int)) (by decide +kernel) rfl (Nat.le_of_ble_eq_true rfl) ?_
  intro p e s m args below meth c A Q C hQ
  change z_V p l e { frames := 0, cells := 0, slots := 0, locals := 0 } s m args below meth c D A 4 0 0 Q ([(hS, .inr (4, [.int (z_I sn), .ref aS1, .ref aS2, .ref aS3, .ref aS4])), (aS1, z_ai cI 32 rk), (aS2, z_ai cI 32 fo), (aS3, z_ai cI 32 fl), (aS4, z_ai cI 32 ft)]) 0 [(0, .ref hS), (1, .int (z_I k)), (2, .int (z_I w))] []
  refine z_iload_n C 1 dX4_tell_0 rfl ?_
  refine z_if_lt C 12 dX4_tell_1 (by decide) (by omega) (fun hc1 => ?_) (fun hc1 => ?_)
  · skip
    refine z_iconst C (-1) dX4_tell_12 ?_
    exact z_iret C hQ rfl (by first | rfl | omega | ((repeat' split) <;> omega)) dX4_tell_13
  · skip
    refine z_iload_n C 1 dX4_tell_4 rfl ?_
    refine z_aload_n C 0 dX4_tell_5 rfl ?_
    refine z_get C 0 0 zi_X4_tell_X4 rfl rfl (by decide) zl_X4_tell_24 rfl rfl dX4_tell_6 ?_
    refine z_icmp_lt C 14 dX4_tell_9 (by decide) (by omega) (by omega) (fun hc2 => ?_) (fun hc2 => ?_)
    · skip
      have hM := hrk k (by omega) (by omega)
      refine z_aload_n C 0 dX4_tell_14 rfl ?_
      refine z_get C 0 1 zi_X4_tell_X4 rfl rfl (by decide) zl_X4_tell_9 rfl rfl dX4_tell_15 ?_
      refine z_iload_n C 1 dX4_tell_18 rfl ?_
      refine z_iald C 1 0 rfl rfl (by decide) (by omega) dX4_tell_19 ?_
      refine z_istore_n C [(3, .int (z_I (rk k))), (0, .ref hS), (1, .int (z_I k)), (2, .int (z_I w))] dX4_tell_20 (by decide) rfl ?_
      refine z_iload_n C 3 dX4_tell_21 rfl ?_
      by_cases hc3 : w = 0
      · skip
        refine z_tabI C 52 0 dX4_tell_22 hc3 (by decide) rfl (by decide) ?_
        refine z_iload_n C 0 dX4_tell_52 rfl ?_
        exact z_iret C hQ rfl (by first | rfl | omega | ((repeat' split) <;> omega)) dX4_tell_53
      by_cases hc4 : w = 1
      · skip
        refine z_tabI C 54 1 dX4_tell_22 hc4 (by decide) rfl (by decide) ?_
        refine z_aload_n C 1 dX4_tell_54 rfl ?_
        refine z_get C 0 2 zi_X4_tell_X4 rfl rfl (by decide) zl_X4_tell_15 rfl rfl dX4_tell_55 ?_
        refine z_iload_n C 0 dX4_tell_58 rfl ?_
        refine z_iald C 2 0 rfl rfl (by decide) (by omega) dX4_tell_59 ?_
        exact z_iret C hQ rfl (by first | rfl | omega | ((repeat' split) <;> omega)) dX4_tell_60
      by_cases hc5 : w = 2
      · skip
        refine z_tabI C 61 2 dX4_tell_22 hc5 (by decide) rfl (by decide) ?_
        refine z_aload_n C 1 dX4_tell_61 rfl ?_
        refine z_get C 0 3 zi_X4_tell_X4 rfl rfl (by decide) zl_X4_tell_18 rfl rfl dX4_tell_62 ?_
        refine z_iload_n C 0 dX4_tell_65 rfl ?_
        refine z_iald C 3 0 rfl rfl (by decide) (by omega) dX4_tell_66 ?_
        exact z_iret C hQ rfl (by first | rfl | omega | ((repeat' split) <;> omega)) dX4_tell_67
      by_cases hc6 : w = 3
      · skip
        refine z_tabI C 68 3 dX4_tell_22 hc6 (by decide) rfl (by decide) ?_
        refine z_aload_n C 1 dX4_tell_68 rfl ?_
        refine z_get C 0 4 zi_X4_tell_X4 rfl rfl (by decide) zl_X4_tell_21 rfl rfl dX4_tell_69 ?_
        refine z_iload_n C 0 dX4_tell_72 rfl ?_
        refine z_iald C 4 0 rfl rfl (by decide) (by omega) dX4_tell_73 ?_
        exact z_iret C hQ rfl (by first | rfl | omega | ((repeat' split) <;> omega)) dX4_tell_74
      refine z_tabO C 75 dX4_tell_22 (by omega) (by omega) (by decide) ?_
      refine z_bipush C (-2) dX4_tell_75 (by decide) ?_
      exact z_iret C hQ rfl (by first | rfl | omega | ((repeat' split) <;> omega)) dX4_tell_77
    · skip
      refine z_iconst C (-1) dX4_tell_12 ?_
      exact z_iret C hQ rfl (by first | rfl | omega | ((repeat' split) <;> omega)) dX4_tell_13
theorem zd_X4_numbersWith : yX4_numbersWith.cls ≠ "java/lang/invoke/MethodHandle" ∧ yX4_numbersWith.cls ≠ "java/lang/invoke/VarHandle" ∧ (parseMethodDescriptor yX4_numbersWith.desc).map (fun d => d.parameters.length) = some 1 := by decide +kernel
set_option maxHeartbeats 4000000 in
set_option maxRecDepth 100000 in
theorem c_X4_numbersWith (l : Launch) (D : va_G) (cI cZ cO : ClassId) (aS : Nat) (f : Int → Int) (hf : ∀ i : Int, 0 ≤ i → i < 32 → 0 ≤ f i ∧ f i < 1000000) : z_Mi l yX4_numbersWith wsX4_numbersWith 0 0 D (z_T cI cZ cO) [.ref aS] ([(aS, z_ai cI 32 f)]) ([(aS, z_ai cI 32 f)]) (z_it (fun j a => if 0 < f j then z_or a (z_p2 j) else a) 0 32) := by
  refine z_Mi_of (cc := cX4_numbersWith) (nL := 3) (ret := (some .int)) (by decide +kernel) rfl (Nat.le_of_ble_eq_true rfl) ?_
  intro p e s m args below meth c A Q C hQ
  change z_V p l e { frames := 0, cells := 0, slots := 0, locals := 0 } s m args below meth c D A 3 0 0 Q ([(aS, z_ai cI 32 f)]) 0 [(0, .ref aS)] []
  refine z_iconst C 0 dX4_numbersWith_0 ?_
  refine z_istore_n C [(1, .int (z_I 0)), (0, .ref aS)] dX4_numbersWith_1 (by decide) rfl ?_
  refine z_iconst C 0 dX4_numbersWith_2 ?_
  refine z_istore_n C [(2, .int (z_I 0)), (1, .int (z_I 0)), (0, .ref aS)] dX4_numbersWith_3 (by decide) rfl ?_
  have loop4 : ∀ (zn : Nat) (j : Int) (a : Int), 0 ≤ j ∧ j ≤ 32 → a = z_it (fun j a => if 0 < f j then z_or a (z_p2 j) else a) 0 j.toNat → (32 - j) < (zn : Int) → z_V p l e { frames := 0, cells := 0, slots := 0, locals := 0 } s m args below meth c D A 3 0 0 Q [(aS, z_ai cI 32 f)] 4 [(2, .int (z_I j)), (1, .int (z_I a)), (0, .ref aS)] [] := by
    intro zn
    induction zn with
    | zero => intro j a hj ha hm4; exact absurd hm4 (by omega)
    | succ zn4 ih4 =>
      intro j a hj ha hm4
      refine z_iload_n C 0 dX4_numbersWith_4 rfl ?_
      refine z_bipush C 32 dX4_numbersWith_5 (by decide) ?_
      refine z_icmp_ge C 34 dX4_numbersWith_7 (by decide) (by omega) (by omega) (fun hc1 => ?_) (fun hc1 => ?_)
      · skip
        obtain rfl : j = 32 := by omega
        refine z_iload_n C 1 dX4_numbersWith_34 rfl ?_
        exact z_iret C hQ rfl ha dX4_numbersWith_35
      · skip
        have hM := hf j (by omega) (by omega)
        refine z_iload_n C 0 dX4_numbersWith_10 rfl ?_
        refine z_aload_n C 2 dX4_numbersWith_11 rfl ?_
        refine z_alen C 0 0 rfl rfl dX4_numbersWith_12 ?_
        refine z_icmp_ge C 34 dX4_numbersWith_13 (by decide) (by omega) (by omega) (fun hc2 => ?_) (fun hc2 => ?_)
        · exfalso; omega
        · skip
          refine z_aload_n C 2 dX4_numbersWith_16 rfl ?_
          refine z_iload_n C 0 dX4_numbersWith_17 rfl ?_
          refine z_iald C 0 0 rfl rfl (by decide) (by omega) dX4_numbersWith_18 ?_
          refine z_if_le C 28 dX4_numbersWith_19 (by decide) (by omega) (fun hc3 => ?_) (fun hc3 => ?_)
          · skip
            have hz : ¬ 0 < f j := by omega
            refine z_iinc C 0 [(2, .int (z_I (j + 1))), (1, .int (z_I a)), (0, .ref aS)] dX4_numbersWith_28 rfl (by decide) rfl ?_
            refine z_goto C 4 dX4_numbersWith_31 (by decide) ?_
            exact ih4 (j + 1) a (by first | assumption | omega) (by rw [z_it_next _ _ hj.1, ← ha]; first | rw [if_pos hz] | rw [if_neg hz]) (by omega)
          · skip
            have hz : 0 < f j := by omega
            refine z_iload_n C 1 dX4_numbersWith_22 rfl ?_
            refine z_iconst C 1 dX4_numbersWith_23 ?_
            refine z_iload_n C 0 dX4_numbersWith_24 rfl ?_
            refine z_ishl C (z_p2 j) dX4_numbersWith_25 (z_shl1 (by omega)) ?_
            refine z_ior C (z_or a (z_p2 j)) dX4_numbersWith_26 (z_or_eq _ _) ?_
            refine z_istore_n C [(1, .int (z_I (z_or a (z_p2 j)))), (2, .int (z_I j)), (0, .ref aS)] dX4_numbersWith_27 (by decide) rfl ?_
            refine z_iinc C 1 [(2, .int (z_I (j + 1))), (1, .int (z_I (z_or a (z_p2 j)))), (0, .ref aS)] dX4_numbersWith_28 rfl (by decide) rfl ?_
            refine z_goto C 4 dX4_numbersWith_31 (by decide) ?_
            exact ih4 (j + 1) (z_or a (z_p2 j)) (by first | assumption | omega) (by rw [z_it_next _ _ hj.1, ← ha]; first | rw [if_pos hz] | rw [if_neg hz]) (by omega)
  exact loop4 33 0 0 (by first | assumption | omega) rfl (by omega)
theorem zi_X4_allNumbers_X4 : ∀ w ∈ u_ws RX4 TX4 5, w ∈ wsX4_allNumbers := by decide +kernel
theorem zl_X4_allNumbers_15 : Cond.fieldLink RX4 15 "RippleCounts$Sightings" "often" "[I" ∈ wsX4_allNumbers := by decide +kernel
theorem zd_X4_allNumbers : yX4_allNumbers.cls ≠ "java/lang/invoke/MethodHandle" ∧ yX4_allNumbers.cls ≠ "java/lang/invoke/VarHandle" ∧ (parseMethodDescriptor yX4_allNumbers.desc).map (fun d => d.parameters.length) = some 0 := by decide +kernel
set_option maxHeartbeats 4000000 in
set_option maxRecDepth 100000 in
theorem c_X4_allNumbers (l : Launch) (D : va_G) (cI cZ cO : ClassId) (hS aS1 aS2 aS3 aS4 : Nat) (sn : Int) (rk fo fl ft : Int → Int) (hf : ∀ i : Int, 0 ≤ i → i < 32 → 0 ≤ fo i ∧ fo i < 1000000) : z_Mi l yX4_allNumbers wsX4_allNumbers 1 22 D (z_T cI cZ cO) [.ref hS] ([(hS, .inr (4, [.int (z_I sn), .ref aS1, .ref aS2, .ref aS3, .ref aS4])), (aS1, z_ai cI 32 rk), (aS2, z_ai cI 32 fo), (aS3, z_ai cI 32 fl), (aS4, z_ai cI 32 ft)]) ([(hS, .inr (4, [.int (z_I sn), .ref aS1, .ref aS2, .ref aS3, .ref aS4])), (aS1, z_ai cI 32 rk), (aS2, z_ai cI 32 fo), (aS3, z_ai cI 32 fl), (aS4, z_ai cI 32 ft)]) (z_it (fun j a => if 0 < fo j then z_or a (z_p2 j) else a) 0 32) := by
  refine z_Mi_of (cc := cX4_allNumbers) (nL := 1) (ret := (some .int)) (by decide +kernel) rfl (Nat.le_of_ble_eq_true rfl) ?_
  intro p e s m args below meth c A Q C hQ
  change z_V p l e { frames := 1, cells := 0, slots := 0, locals := 22 } s m args below meth c D A 1 0 0 Q ([(hS, .inr (4, [.int (z_I sn), .ref aS1, .ref aS2, .ref aS3, .ref aS4])), (aS1, z_ai cI 32 rk), (aS2, z_ai cI 32 fo), (aS3, z_ai cI 32 fl), (aS4, z_ai cI 32 ft)]) 0 [(0, .ref hS)] []
  refine z_aload_n C 0 dX4_allNumbers_0 rfl ?_
  refine z_get C 0 2 zi_X4_allNumbers_X4 rfl rfl (by decide) zl_X4_allNumbers_15 rfl rfl dX4_allNumbers_1 ?_
  refine z_callSi C [2] [(hS, .inr (4, [.int (z_I sn), .ref aS1, .ref aS2, .ref aS3, .ref aS4])), (aS1, z_ai cI 32 rk), (aS2, z_ai cI 32 fo), (aS3, z_ai cI 32 fl), (aS4, z_ai cI 32 ft)] [.ref aS2] [] (c_X4_numbersWith l D cI cZ cO aS2 fo (by first | assumption | omega)) gX4_allNumbers_X4_numbersWith rfl zd_X4_numbersWith rfl (by decide) rfl (by decide) rfl rfl rfl (Nat.le_of_ble_eq_true rfl) (by decide) dX4_allNumbers_4 ?_
  exact z_iret C hQ rfl rfl dX4_allNumbers_7
theorem zi_X4_flashedNumbers_X4 : ∀ w ∈ u_ws RX4 TX4 5, w ∈ wsX4_flashedNumbers := by decide +kernel
theorem zl_X4_flashedNumbers_18 : Cond.fieldLink RX4 18 "RippleCounts$Sightings" "flashes" "[I" ∈ wsX4_flashedNumbers := by decide +kernel
theorem zd_X4_flashedNumbers : yX4_flashedNumbers.cls ≠ "java/lang/invoke/MethodHandle" ∧ yX4_flashedNumbers.cls ≠ "java/lang/invoke/VarHandle" ∧ (parseMethodDescriptor yX4_flashedNumbers.desc).map (fun d => d.parameters.length) = some 0 := by decide +kernel
set_option maxHeartbeats 4000000 in
set_option maxRecDepth 100000 in
theorem c_X4_flashedNumbers (l : Launch) (D : va_G) (cI cZ cO : ClassId) (hS aS1 aS2 aS3 aS4 : Nat) (sn : Int) (rk fo fl ft : Int → Int) (hf : ∀ i : Int, 0 ≤ i → i < 32 → 0 ≤ fl i ∧ fl i < 1000000) : z_Mi l yX4_flashedNumbers wsX4_flashedNumbers 1 22 D (z_T cI cZ cO) [.ref hS] ([(hS, .inr (4, [.int (z_I sn), .ref aS1, .ref aS2, .ref aS3, .ref aS4])), (aS1, z_ai cI 32 rk), (aS2, z_ai cI 32 fo), (aS3, z_ai cI 32 fl), (aS4, z_ai cI 32 ft)]) ([(hS, .inr (4, [.int (z_I sn), .ref aS1, .ref aS2, .ref aS3, .ref aS4])), (aS1, z_ai cI 32 rk), (aS2, z_ai cI 32 fo), (aS3, z_ai cI 32 fl), (aS4, z_ai cI 32 ft)]) (z_it (fun j a => if 0 < fl j then z_or a (z_p2 j) else a) 0 32) := by
  refine z_Mi_of (cc := cX4_flashedNumbers) (nL := 1) (ret := (some .int)) (by decide +kernel) rfl (Nat.le_of_ble_eq_true rfl) ?_
  intro p e s m args below meth c A Q C hQ
  change z_V p l e { frames := 1, cells := 0, slots := 0, locals := 22 } s m args below meth c D A 1 0 0 Q ([(hS, .inr (4, [.int (z_I sn), .ref aS1, .ref aS2, .ref aS3, .ref aS4])), (aS1, z_ai cI 32 rk), (aS2, z_ai cI 32 fo), (aS3, z_ai cI 32 fl), (aS4, z_ai cI 32 ft)]) 0 [(0, .ref hS)] []
  refine z_aload_n C 0 dX4_flashedNumbers_0 rfl ?_
  refine z_get C 0 3 zi_X4_flashedNumbers_X4 rfl rfl (by decide) zl_X4_flashedNumbers_18 rfl rfl dX4_flashedNumbers_1 ?_
  refine z_callSi C [3] [(hS, .inr (4, [.int (z_I sn), .ref aS1, .ref aS2, .ref aS3, .ref aS4])), (aS1, z_ai cI 32 rk), (aS2, z_ai cI 32 fo), (aS3, z_ai cI 32 fl), (aS4, z_ai cI 32 ft)] [.ref aS3] [] (c_X4_numbersWith l D cI cZ cO aS3 fl (by first | assumption | omega)) gX4_flashedNumbers_X4_numbersWith rfl zd_X4_numbersWith rfl (by decide) rfl (by decide) rfl rfl rfl (Nat.le_of_ble_eq_true rfl) (by decide) dX4_flashedNumbers_4 ?_
  exact z_iret C hQ rfl rfl dX4_flashedNumbers_7
