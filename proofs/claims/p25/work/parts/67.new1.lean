def z_ct00 : z_Ct := ((0, 4, 0, 0, (fun _ => 3), (fun _ => 0), (fun _ => 0)), (0, (fun _ => 0), (fun _ => 0), (fun _ => 0), (fun _ => 0)), (0, (fun _ => 0), (fun _ => 0), (fun _ => 0), (fun _ => 0)), 2, 0, 0, 0, 0)
/-- a new counter -/
def z_ct0 : z_Ct := z_anew z_ct00 4
theorem zi_X5_init_X5 : ∀ w ∈ u_ws RX5 TX5 7, w ∈ wsX5_init := by decide +kernel
theorem zl_X5_init_aI : Cond.arrayClass .int ∈ wsX5_init := by decide +kernel
theorem zl_X5_init_f15 : Cond.fieldLink RX5 15 "RippleCounts$Wave" "delays" "[I" ∈ wsX5_init := by decide +kernel
theorem zl_X5_init_f19 : Cond.fieldLink RX5 19 "RippleCounts$Wave" "done" "[I" ∈ wsX5_init := by decide +kernel
theorem zl_X5_init_f22 : Cond.fieldLink RX5 22 "RippleCounts$Wave" "due" "[I" ∈ wsX5_init := by decide +kernel
theorem zl_X5_init_f9 : Cond.fieldLink RX5 9 "RippleCounts$Wave" "stages" "I" ∈ wsX5_init := by decide +kernel
theorem zl_X5_init_o3 : Cond.methodLink RX5 3 objectInit ∈ wsX5_init := by decide +kernel
theorem zl_X5_init_oc : Cond.code objectInit ⟨#[0xb1]⟩ 1 none ∈ wsX5_init := by decide +kernel
theorem zl_X5_init_oi : Cond.instanceMethod objectInit ∈ wsX5_init := by decide +kernel
theorem zd_X5_init : yX5_init.cls ≠ "java/lang/invoke/MethodHandle" ∧ yX5_init.cls ≠ "java/lang/invoke/VarHandle" ∧ (parseMethodDescriptor yX5_init.desc).map (fun d => d.parameters.length) = some 0 := by decide +kernel
set_option maxHeartbeats 4000000 in
set_option maxRecDepth 100000 in
theorem c_X5_init (l : Launch) (D : va_G) (cI cZ cO : ClassId) (hW : Nat) : z_Nv l yX5_init wsX5_init 1 23 3 115 D (z_T cI cZ cO) [.ref hW] ([(hW, .inr (5, [.int (z_I 0), .int (z_I 0), .int (z_I 0), .int (z_I 0), .null, .null, .null]))]) (fun w => ∃ (aD aN aU : Nat), w = [(hW, .inr (5, [.int (z_I 0), .int (z_I 4), .int (z_I 0), .int (z_I 0), .ref aD, .ref aN, .ref aU])), (aD, z_ai cI 5 (fun _ => 3)), (aN, z_ai cI 5 (fun _ => 0)), (aU, z_ai cI 105 (fun _ => 0))]) := by
  refine z_Nv_of (cc := cX5_init) (nL := 1) (ret := none) (by decide +kernel) rfl rfl (Nat.le_of_ble_eq_true rfl) ?_
  intro p e s m args below meth c A Q C hinit hN hQ
  change z_V p l e { frames := 1, cells := 3, slots := 115, locals := 23 } s m args below meth c D A 1 0 0 Q ([(hW, .inr (5, [.int (z_I 0), .int (z_I 0), .int (z_I 0), .int (z_I 0), .null, .null, .null]))]) 0 [(0, .ref hW)] []
  refine z_aload_n C 0 dX5_init_0 rfl ?_
  refine z_obj C zl_X5_init_o3 zl_X5_init_oi zl_X5_init_oc (by decide) (Nat.le_of_ble_eq_true rfl) dX5_init_1 ?_
  refine z_aload_n C 0 dX5_init_4 rfl ?_
  refine z_iconst C 4 dX5_init_5 ?_
  refine z_put C 0 1 ([(hW, .inr (5, [.int (z_I 0), .int (z_I 4), .int (z_I 0), .int (z_I 0), .null, .null, .null]))]) zi_X5_init_X5 tyX5_ok nmX5 rfl rfl (by decide) zl_X5_init_f9 rfl rfl rfl rfl (Nat.le_of_ble_eq_true rfl) rfl dX5_init_6 ?_
  refine z_aload_n C 0 dX5_init_9 rfl ?_
  refine z_iconst C 5 dX5_init_10 ?_
  refine z_newa C 0 5 (fun aD => [(hW, .inr (5, [.int (z_I 0), .int (z_I 4), .int (z_I 0), .int (z_I 0), .null, .null, .null])), (aD, z_ai cI 5 (fun _ => 0))]) rfl zl_X5_init_aI rfl (Or.inl rfl) rfl (by decide) ⟨Nat.le_of_ble_eq_true rfl, Nat.le_of_ble_eq_true rfl⟩ (fun aD => rfl) dX5_init_11 (fun aD => ?_)
  refine z_putF C 0 4 ([(hW, .inr (5, [.int (z_I 0), .int (z_I 4), .int (z_I 0), .int (z_I 0), .ref aD, .null, .null])), (aD, z_ai cI 5 (fun _ => 0))]) hinit zi_X5_init_X5 tyX5_ok nmX5 rfl rfl (by decide) zl_X5_init_f15 rfl rfl rfl rfl rfl (Nat.le_of_ble_eq_true rfl) rfl dX5_init_13 ?_
  refine z_aload_n C 0 dX5_init_16 rfl ?_
  refine z_iconst C 5 dX5_init_17 ?_
  refine z_newa C 0 5 (fun aN => [(hW, .inr (5, [.int (z_I 0), .int (z_I 4), .int (z_I 0), .int (z_I 0), .ref aD, .null, .null])), (aD, z_ai cI 5 (fun _ => 0)), (aN, z_ai cI 5 (fun _ => 0))]) rfl zl_X5_init_aI rfl (Or.inl rfl) rfl (by decide) ⟨Nat.le_of_ble_eq_true rfl, Nat.le_of_ble_eq_true rfl⟩ (fun aN => rfl) dX5_init_18 (fun aN => ?_)
  refine z_putF C 0 5 ([(hW, .inr (5, [.int (z_I 0), .int (z_I 4), .int (z_I 0), .int (z_I 0), .ref aD, .ref aN, .null])), (aD, z_ai cI 5 (fun _ => 0)), (aN, z_ai cI 5 (fun _ => 0))]) hinit zi_X5_init_X5 tyX5_ok nmX5 rfl rfl (by decide) zl_X5_init_f19 rfl rfl rfl rfl rfl (Nat.le_of_ble_eq_true rfl) rfl dX5_init_20 ?_
  refine z_aload_n C 0 dX5_init_23 rfl ?_
  refine z_bipush C 105 dX5_init_24 (by decide) ?_
  refine z_newa C 0 105 (fun aU => [(hW, .inr (5, [.int (z_I 0), .int (z_I 4), .int (z_I 0), .int (z_I 0), .ref aD, .ref aN, .null])), (aD, z_ai cI 5 (fun _ => 0)), (aN, z_ai cI 5 (fun _ => 0)), (aU, z_ai cI 105 (fun _ => 0))]) rfl zl_X5_init_aI rfl (Or.inl rfl) rfl (by decide) ⟨Nat.le_of_ble_eq_true rfl, Nat.le_of_ble_eq_true rfl⟩ (fun aU => rfl) dX5_init_26 (fun aU => ?_)
  refine z_putF C 0 6 ([(hW, .inr (5, [.int (z_I 0), .int (z_I 4), .int (z_I 0), .int (z_I 0), .ref aD, .ref aN, .ref aU])), (aD, z_ai cI 5 (fun _ => 0)), (aN, z_ai cI 5 (fun _ => 0)), (aU, z_ai cI 105 (fun _ => 0))]) hinit zi_X5_init_X5 tyX5_ok nmX5 rfl rfl (by decide) zl_X5_init_f22 rfl rfl rfl rfl rfl (Nat.le_of_ble_eq_true rfl) rfl dX5_init_28 ?_
  refine z_aload_n C 0 dX5_init_31 rfl ?_
  refine z_get C 0 4 zi_X5_init_X5 rfl rfl (by decide) zl_X5_init_f15 rfl rfl dX5_init_32 ?_
  refine z_iconst C 3 dX5_init_35 ?_
  refine z_callSv C [1] ([(hW, .inr (5, [.int (z_I 0), .int (z_I 4), .int (z_I 0), .int (z_I 0), .ref aD, .ref aN, .ref aU])), (aD, z_ai cI 5 (fun _ => 3)), (aN, z_ai cI 5 (fun _ => 0)), (aU, z_ai cI 105 (fun _ => 0))]) [.ref aD, .int (z_I 3)] [] (c_J7_fill_53178_5 l D cI cZ cO aD (fun _ => 0) 3) gX5_init_J7_fill_53178 rfl zd_J7_fill_53178 rfl (by decide) rfl (by decide) rfl rfl rfl (Nat.le_of_ble_eq_true rfl) ⟨Nat.le_of_ble_eq_true rfl, Nat.le_of_ble_eq_true rfl⟩ dX5_init_36 ?_
  exact z_nret C hQ rfl rfl ⟨aD, aN, aU, rfl⟩ dX5_init_39
theorem zi_X3_init_X3 : ∀ w ∈ u_ws RX3 TX3 5, w ∈ wsX3_init := by decide +kernel
theorem zl_X3_init_aI : Cond.arrayClass .int ∈ wsX3_init := by decide +kernel
theorem zl_X3_init_f15 : Cond.fieldLink RX3 15 "RippleCounts$Readings" "times" "[I" ∈ wsX3_init := by decide +kernel
theorem zl_X3_init_f18 : Cond.fieldLink RX3 18 "RippleCounts$Readings" "counts" "[I" ∈ wsX3_init := by decide +kernel
theorem zl_X3_init_f21 : Cond.fieldLink RX3 21 "RippleCounts$Readings" "latched" "[I" ∈ wsX3_init := by decide +kernel
theorem zl_X3_init_f9 : Cond.fieldLink RX3 9 "RippleCounts$Readings" "numbers" "[I" ∈ wsX3_init := by decide +kernel
theorem zl_X3_init_o3 : Cond.methodLink RX3 3 objectInit ∈ wsX3_init := by decide +kernel
theorem zl_X3_init_oc : Cond.code objectInit ⟨#[0xb1]⟩ 1 none ∈ wsX3_init := by decide +kernel
theorem zl_X3_init_oi : Cond.instanceMethod objectInit ∈ wsX3_init := by decide +kernel
theorem zd_X3_init : yX3_init.cls ≠ "java/lang/invoke/MethodHandle" ∧ yX3_init.cls ≠ "java/lang/invoke/VarHandle" ∧ (parseMethodDescriptor yX3_init.desc).map (fun d => d.parameters.length) = some 0 := by decide +kernel
set_option maxHeartbeats 4000000 in
set_option maxRecDepth 100000 in
theorem c_X3_init (l : Launch) (D : va_G) (cI cZ cO : ClassId) (hR : Nat) : z_Nv l yX3_init wsX3_init 1 20 4 396 D (z_T cI cZ cO) [.ref hR] ([(hR, .inr (3, [.int (z_I 0), .null, .null, .null, .null]))]) (fun w => ∃ (aR1 aR2 aR3 aR4 : Nat), w = [(hR, .inr (3, [.int (z_I 0), .ref aR1, .ref aR2, .ref aR3, .ref aR4])), (aR1, z_ai cI 99 (fun _ => 0)), (aR2, z_ai cI 99 (fun _ => 0)), (aR3, z_ai cI 99 (fun _ => 0)), (aR4, z_ai cI 99 (fun _ => 0))]) := by
  refine z_Nv_of (cc := cX3_init) (nL := 1) (ret := none) (by decide +kernel) rfl rfl (Nat.le_of_ble_eq_true rfl) ?_
  intro p e s m args below meth c A Q C hinit hN hQ
  change z_V p l e { frames := 1, cells := 4, slots := 396, locals := 20 } s m args below meth c D A 1 0 0 Q ([(hR, .inr (3, [.int (z_I 0), .null, .null, .null, .null]))]) 0 [(0, .ref hR)] []
  refine z_aload_n C 0 dX3_init_0 rfl ?_
  refine z_obj C zl_X3_init_o3 zl_X3_init_oi zl_X3_init_oc (by decide) (Nat.le_of_ble_eq_true rfl) dX3_init_1 ?_
  refine z_aload_n C 0 dX3_init_4 rfl ?_
  refine z_bipush C 99 dX3_init_5 (by decide) ?_
  refine z_newa C 0 99 (fun aR1 => [(hR, .inr (3, [.int (z_I 0), .null, .null, .null, .null])), (aR1, z_ai cI 99 (fun _ => 0))]) rfl zl_X3_init_aI rfl (Or.inl rfl) rfl (by decide) ⟨Nat.le_of_ble_eq_true rfl, Nat.le_of_ble_eq_true rfl⟩ (fun aR1 => rfl) dX3_init_7 (fun aR1 => ?_)
  refine z_putF C 0 1 ([(hR, .inr (3, [.int (z_I 0), .ref aR1, .null, .null, .null])), (aR1, z_ai cI 99 (fun _ => 0))]) hinit zi_X3_init_X3 tyX3_ok nmX3 rfl rfl (by decide) zl_X3_init_f9 rfl rfl rfl rfl rfl (Nat.le_of_ble_eq_true rfl) rfl dX3_init_9 ?_
  refine z_aload_n C 0 dX3_init_12 rfl ?_
  refine z_bipush C 99 dX3_init_13 (by decide) ?_
  refine z_newa C 0 99 (fun aR2 => [(hR, .inr (3, [.int (z_I 0), .ref aR1, .null, .null, .null])), (aR1, z_ai cI 99 (fun _ => 0)), (aR2, z_ai cI 99 (fun _ => 0))]) rfl zl_X3_init_aI rfl (Or.inl rfl) rfl (by decide) ⟨Nat.le_of_ble_eq_true rfl, Nat.le_of_ble_eq_true rfl⟩ (fun aR2 => rfl) dX3_init_15 (fun aR2 => ?_)
  refine z_putF C 0 2 ([(hR, .inr (3, [.int (z_I 0), .ref aR1, .ref aR2, .null, .null])), (aR1, z_ai cI 99 (fun _ => 0)), (aR2, z_ai cI 99 (fun _ => 0))]) hinit zi_X3_init_X3 tyX3_ok nmX3 rfl rfl (by decide) zl_X3_init_f15 rfl rfl rfl rfl rfl (Nat.le_of_ble_eq_true rfl) rfl dX3_init_17 ?_
  refine z_aload_n C 0 dX3_init_20 rfl ?_
  refine z_bipush C 99 dX3_init_21 (by decide) ?_
  refine z_newa C 0 99 (fun aR3 => [(hR, .inr (3, [.int (z_I 0), .ref aR1, .ref aR2, .null, .null])), (aR1, z_ai cI 99 (fun _ => 0)), (aR2, z_ai cI 99 (fun _ => 0)), (aR3, z_ai cI 99 (fun _ => 0))]) rfl zl_X3_init_aI rfl (Or.inl rfl) rfl (by decide) ⟨Nat.le_of_ble_eq_true rfl, Nat.le_of_ble_eq_true rfl⟩ (fun aR3 => rfl) dX3_init_23 (fun aR3 => ?_)
  refine z_putF C 0 3 ([(hR, .inr (3, [.int (z_I 0), .ref aR1, .ref aR2, .ref aR3, .null])), (aR1, z_ai cI 99 (fun _ => 0)), (aR2, z_ai cI 99 (fun _ => 0)), (aR3, z_ai cI 99 (fun _ => 0))]) hinit zi_X3_init_X3 tyX3_ok nmX3 rfl rfl (by decide) zl_X3_init_f18 rfl rfl rfl rfl rfl (Nat.le_of_ble_eq_true rfl) rfl dX3_init_25 ?_
  refine z_aload_n C 0 dX3_init_28 rfl ?_
  refine z_bipush C 99 dX3_init_29 (by decide) ?_
  refine z_newa C 0 99 (fun aR4 => [(hR, .inr (3, [.int (z_I 0), .ref aR1, .ref aR2, .ref aR3, .null])), (aR1, z_ai cI 99 (fun _ => 0)), (aR2, z_ai cI 99 (fun _ => 0)), (aR3, z_ai cI 99 (fun _ => 0)), (aR4, z_ai cI 99 (fun _ => 0))]) rfl zl_X3_init_aI rfl (Or.inl rfl) rfl (by decide) ⟨Nat.le_of_ble_eq_true rfl, Nat.le_of_ble_eq_true rfl⟩ (fun aR4 => rfl) dX3_init_31 (fun aR4 => ?_)
  refine z_putF C 0 4 ([(hR, .inr (3, [.int (z_I 0), .ref aR1, .ref aR2, .ref aR3, .ref aR4])), (aR1, z_ai cI 99 (fun _ => 0)), (aR2, z_ai cI 99 (fun _ => 0)), (aR3, z_ai cI 99 (fun _ => 0)), (aR4, z_ai cI 99 (fun _ => 0))]) hinit zi_X3_init_X3 tyX3_ok nmX3 rfl rfl (by decide) zl_X3_init_f21 rfl rfl rfl rfl rfl (Nat.le_of_ble_eq_true rfl) rfl dX3_init_33 ?_
  exact z_nret C hQ rfl rfl ⟨aR1, aR2, aR3, aR4, rfl⟩ dX3_init_36
theorem zi_X4_init_X4 : ∀ w ∈ u_ws RX4 TX4 5, w ∈ wsX4_init := by decide +kernel
theorem zl_X4_init_aI : Cond.arrayClass .int ∈ wsX4_init := by decide +kernel
theorem zl_X4_init_f15 : Cond.fieldLink RX4 15 "RippleCounts$Sightings" "often" "[I" ∈ wsX4_init := by decide +kernel
theorem zl_X4_init_f18 : Cond.fieldLink RX4 18 "RippleCounts$Sightings" "flashes" "[I" ∈ wsX4_init := by decide +kernel
theorem zl_X4_init_f21 : Cond.fieldLink RX4 21 "RippleCounts$Sightings" "firstTimes" "[I" ∈ wsX4_init := by decide +kernel
theorem zl_X4_init_f9 : Cond.fieldLink RX4 9 "RippleCounts$Sightings" "ranked" "[I" ∈ wsX4_init := by decide +kernel
theorem zl_X4_init_o3 : Cond.methodLink RX4 3 objectInit ∈ wsX4_init := by decide +kernel
theorem zl_X4_init_oc : Cond.code objectInit ⟨#[0xb1]⟩ 1 none ∈ wsX4_init := by decide +kernel
theorem zl_X4_init_oi : Cond.instanceMethod objectInit ∈ wsX4_init := by decide +kernel
theorem zd_X4_init : yX4_init.cls ≠ "java/lang/invoke/MethodHandle" ∧ yX4_init.cls ≠ "java/lang/invoke/VarHandle" ∧ (parseMethodDescriptor yX4_init.desc).map (fun d => d.parameters.length) = some 0 := by decide +kernel
set_option maxHeartbeats 4000000 in
set_option maxRecDepth 100000 in
theorem c_X4_init (l : Launch) (D : va_G) (cI cZ cO : ClassId) (hS : Nat) : z_Nv l yX4_init wsX4_init 1 20 4 128 D (z_T cI cZ cO) [.ref hS] ([(hS, .inr (4, [.int (z_I 0), .null, .null, .null, .null]))]) (fun w => ∃ (aS1 aS2 aS3 aS4 : Nat), w = [(hS, .inr (4, [.int (z_I 0), .ref aS1, .ref aS2, .ref aS3, .ref aS4])), (aS1, z_ai cI 32 (fun _ => 0)), (aS2, z_ai cI 32 (fun _ => 0)), (aS3, z_ai cI 32 (fun _ => 0)), (aS4, z_ai cI 32 (fun _ => 0))]) := by
  refine z_Nv_of (cc := cX4_init) (nL := 1) (ret := none) (by decide +kernel) rfl rfl (Nat.le_of_ble_eq_true rfl) ?_
  intro p e s m args below meth c A Q C hinit hN hQ
  change z_V p l e { frames := 1, cells := 4, slots := 128, locals := 20 } s m args below meth c D A 1 0 0 Q ([(hS, .inr (4, [.int (z_I 0), .null, .null, .null, .null]))]) 0 [(0, .ref hS)] []
  refine z_aload_n C 0 dX4_init_0 rfl ?_
  refine z_obj C zl_X4_init_o3 zl_X4_init_oi zl_X4_init_oc (by decide) (Nat.le_of_ble_eq_true rfl) dX4_init_1 ?_
  refine z_aload_n C 0 dX4_init_4 rfl ?_
  refine z_bipush C 32 dX4_init_5 (by decide) ?_
  refine z_newa C 0 32 (fun aS1 => [(hS, .inr (4, [.int (z_I 0), .null, .null, .null, .null])), (aS1, z_ai cI 32 (fun _ => 0))]) rfl zl_X4_init_aI rfl (Or.inl rfl) rfl (by decide) ⟨Nat.le_of_ble_eq_true rfl, Nat.le_of_ble_eq_true rfl⟩ (fun aS1 => rfl) dX4_init_7 (fun aS1 => ?_)
  refine z_putF C 0 1 ([(hS, .inr (4, [.int (z_I 0), .ref aS1, .null, .null, .null])), (aS1, z_ai cI 32 (fun _ => 0))]) hinit zi_X4_init_X4 tyX4_ok nmX4 rfl rfl (by decide) zl_X4_init_f9 rfl rfl rfl rfl rfl (Nat.le_of_ble_eq_true rfl) rfl dX4_init_9 ?_
  refine z_aload_n C 0 dX4_init_12 rfl ?_
  refine z_bipush C 32 dX4_init_13 (by decide) ?_
  refine z_newa C 0 32 (fun aS2 => [(hS, .inr (4, [.int (z_I 0), .ref aS1, .null, .null, .null])), (aS1, z_ai cI 32 (fun _ => 0)), (aS2, z_ai cI 32 (fun _ => 0))]) rfl zl_X4_init_aI rfl (Or.inl rfl) rfl (by decide) ⟨Nat.le_of_ble_eq_true rfl, Nat.le_of_ble_eq_true rfl⟩ (fun aS2 => rfl) dX4_init_15 (fun aS2 => ?_)
  refine z_putF C 0 2 ([(hS, .inr (4, [.int (z_I 0), .ref aS1, .ref aS2, .null, .null])), (aS1, z_ai cI 32 (fun _ => 0)), (aS2, z_ai cI 32 (fun _ => 0))]) hinit zi_X4_init_X4 tyX4_ok nmX4 rfl rfl (by decide) zl_X4_init_f15 rfl rfl rfl rfl rfl (Nat.le_of_ble_eq_true rfl) rfl dX4_init_17 ?_
  refine z_aload_n C 0 dX4_init_20 rfl ?_
  refine z_bipush C 32 dX4_init_21 (by decide) ?_
  refine z_newa C 0 32 (fun aS3 => [(hS, .inr (4, [.int (z_I 0), .ref aS1, .ref aS2, .null, .null])), (aS1, z_ai cI 32 (fun _ => 0)), (aS2, z_ai cI 32 (fun _ => 0)), (aS3, z_ai cI 32 (fun _ => 0))]) rfl zl_X4_init_aI rfl (Or.inl rfl) rfl (by decide) ⟨Nat.le_of_ble_eq_true rfl, Nat.le_of_ble_eq_true rfl⟩ (fun aS3 => rfl) dX4_init_23 (fun aS3 => ?_)
  refine z_putF C 0 3 ([(hS, .inr (4, [.int (z_I 0), .ref aS1, .ref aS2, .ref aS3, .null])), (aS1, z_ai cI 32 (fun _ => 0)), (aS2, z_ai cI 32 (fun _ => 0)), (aS3, z_ai cI 32 (fun _ => 0))]) hinit zi_X4_init_X4 tyX4_ok nmX4 rfl rfl (by decide) zl_X4_init_f18 rfl rfl rfl rfl rfl (Nat.le_of_ble_eq_true rfl) rfl dX4_init_25 ?_
  refine z_aload_n C 0 dX4_init_28 rfl ?_
  refine z_bipush C 32 dX4_init_29 (by decide) ?_
  refine z_newa C 0 32 (fun aS4 => [(hS, .inr (4, [.int (z_I 0), .ref aS1, .ref aS2, .ref aS3, .null])), (aS1, z_ai cI 32 (fun _ => 0)), (aS2, z_ai cI 32 (fun _ => 0)), (aS3, z_ai cI 32 (fun _ => 0)), (aS4, z_ai cI 32 (fun _ => 0))]) rfl zl_X4_init_aI rfl (Or.inl rfl) rfl (by decide) ⟨Nat.le_of_ble_eq_true rfl, Nat.le_of_ble_eq_true rfl⟩ (fun aS4 => rfl) dX4_init_31 (fun aS4 => ?_)
  refine z_putF C 0 4 ([(hS, .inr (4, [.int (z_I 0), .ref aS1, .ref aS2, .ref aS3, .ref aS4])), (aS1, z_ai cI 32 (fun _ => 0)), (aS2, z_ai cI 32 (fun _ => 0)), (aS3, z_ai cI 32 (fun _ => 0)), (aS4, z_ai cI 32 (fun _ => 0))]) hinit zi_X4_init_X4 tyX4_ok nmX4 rfl rfl (by decide) zl_X4_init_f21 rfl rfl rfl rfl rfl (Nat.le_of_ble_eq_true rfl) rfl dX4_init_33 ?_
  exact z_nret C hQ rfl rfl ⟨aS1, aS2, aS3, aS4, rfl⟩ dX4_init_36
theorem zi_X2_init_X2 : ∀ w ∈ u_ws RX2 TX2 2, w ∈ wsX2_init := by decide +kernel
theorem zl_X2_init_aI : Cond.arrayClass .int ∈ wsX2_init := by decide +kernel
theorem zl_X2_init_f9 : Cond.fieldLink RX2 9 "RippleCounts$Pad" "signs" "[I" ∈ wsX2_init := by decide +kernel
theorem zl_X2_init_o3 : Cond.methodLink RX2 3 objectInit ∈ wsX2_init := by decide +kernel
theorem zl_X2_init_oc : Cond.code objectInit ⟨#[0xb1]⟩ 1 none ∈ wsX2_init := by decide +kernel
theorem zl_X2_init_oi : Cond.instanceMethod objectInit ∈ wsX2_init := by decide +kernel
theorem zd_X2_init : yX2_init.cls ≠ "java/lang/invoke/MethodHandle" ∧ yX2_init.cls ≠ "java/lang/invoke/VarHandle" ∧ (parseMethodDescriptor yX2_init.desc).map (fun d => d.parameters.length) = some 0 := by decide +kernel
set_option maxHeartbeats 4000000 in
set_option maxRecDepth 100000 in
theorem c_X2_init (l : Launch) (D : va_G) (cI cZ cO : ClassId) (hP : Nat) : z_Nv l yX2_init wsX2_init 1 20 1 80 D (z_T cI cZ cO) [.ref hP] ([(hP, .inr (2, [.int (z_I 0), .null]))]) (fun w => ∃ (aP : Nat), w = [(hP, .inr (2, [.int (z_I 0), .ref aP])), (aP, z_ai cI 80 (fun _ => 0))]) := by
  refine z_Nv_of (cc := cX2_init) (nL := 1) (ret := none) (by decide +kernel) rfl rfl (Nat.le_of_ble_eq_true rfl) ?_
  intro p e s m args below meth c A Q C hinit hN hQ
  change z_V p l e { frames := 1, cells := 1, slots := 80, locals := 20 } s m args below meth c D A 1 0 0 Q ([(hP, .inr (2, [.int (z_I 0), .null]))]) 0 [(0, .ref hP)] []
  refine z_aload_n C 0 dX2_init_0 rfl ?_
  refine z_obj C zl_X2_init_o3 zl_X2_init_oi zl_X2_init_oc (by decide) (Nat.le_of_ble_eq_true rfl) dX2_init_1 ?_
  refine z_aload_n C 0 dX2_init_4 rfl ?_
  refine z_bipush C 80 dX2_init_5 (by decide) ?_
  refine z_newa C 0 80 (fun aP => [(hP, .inr (2, [.int (z_I 0), .null])), (aP, z_ai cI 80 (fun _ => 0))]) rfl zl_X2_init_aI rfl (Or.inl rfl) rfl (by decide) ⟨Nat.le_of_ble_eq_true rfl, Nat.le_of_ble_eq_true rfl⟩ (fun aP => rfl) dX2_init_7 (fun aP => ?_)
  refine z_putF C 0 1 ([(hP, .inr (2, [.int (z_I 0), .ref aP])), (aP, z_ai cI 80 (fun _ => 0))]) hinit zi_X2_init_X2 tyX2_ok nmX2 rfl rfl (by decide) zl_X2_init_f9 rfl rfl rfl rfl rfl (Nat.le_of_ble_eq_true rfl) rfl dX2_init_9 ?_
  exact z_nret C hQ rfl rfl ⟨aP, rfl⟩ dX2_init_12
theorem zi_X0_init_X0 : ∀ w ∈ u_ws RX0 TX0 8, w ∈ wsX0_init := by decide +kernel
theorem zi_X0_init_X3 : ∀ w ∈ u_ws RX3 TX3 5, w ∈ wsX0_init := by decide +kernel
theorem zi_X0_init_X4 : ∀ w ∈ u_ws RX4 TX4 5, w ∈ wsX0_init := by decide +kernel
theorem zi_X0_init_X5 : ∀ w ∈ u_ws RX5 TX5 7, w ∈ wsX0_init := by decide +kernel
theorem zl_X0_init_c18 : Cond.classLink RX0 18 RX3 ∈ wsX0_init := by decide +kernel
theorem zl_X0_init_c25 : Cond.classLink RX0 25 RX4 ∈ wsX0_init := by decide +kernel
theorem zl_X0_init_c9 : Cond.classLink RX0 9 RX5 ∈ wsX0_init := by decide +kernel
theorem zl_X0_init_f12 : Cond.fieldLink RX0 12 "RippleCounts$Counter" "wave" "LRippleCounts$Wave;" ∈ wsX0_init := by decide +kernel
theorem zl_X0_init_f21 : Cond.fieldLink RX0 21 "RippleCounts$Counter" "readings" "LRippleCounts$Readings;" ∈ wsX0_init := by decide +kernel
theorem zl_X0_init_f28 : Cond.fieldLink RX0 28 "RippleCounts$Counter" "sightings" "LRippleCounts$Sightings;" ∈ wsX0_init := by decide +kernel
theorem zl_X0_init_f32 : Cond.fieldLink RX0 32 "RippleCounts$Counter" "hold" "I" ∈ wsX0_init := by decide +kernel
theorem zl_X0_init_f36 : Cond.fieldLink RX0 36 "RippleCounts$Counter" "lastClock" "I" ∈ wsX0_init := by decide +kernel
theorem zl_X0_init_f39 : Cond.fieldLink RX0 39 "RippleCounts$Counter" "lastDone" "I" ∈ wsX0_init := by decide +kernel
theorem zl_X0_init_iX3 : Cond.instantiable RX3 5 ∈ wsX0_init := by decide +kernel
theorem zl_X0_init_iX4 : Cond.instantiable RX4 5 ∈ wsX0_init := by decide +kernel
theorem zl_X0_init_iX5 : Cond.instantiable RX5 7 ∈ wsX0_init := by decide +kernel
theorem zl_X0_init_l11 : Cond.methodLink RX0 11 yX5_init ∈ wsX0_init := by decide +kernel
theorem zl_X0_init_mX3 : Cond.instanceMethod yX3_init ∈ wsX0_init := by decide +kernel
theorem zl_X0_init_mX4 : Cond.instanceMethod yX4_init ∈ wsX0_init := by decide +kernel
theorem zl_X0_init_mX5 : Cond.instanceMethod yX5_init ∈ wsX0_init := by decide +kernel
theorem zl_X0_init_nX3 : Cond.initialized RX3 ∈ wsX0_init := by decide +kernel
theorem zl_X0_init_nX3c : Cond.initialized yX3_init.cls ∈ wsX0_init := by decide +kernel
theorem zl_X0_init_nX4 : Cond.initialized RX4 ∈ wsX0_init := by decide +kernel
theorem zl_X0_init_nX4c : Cond.initialized yX4_init.cls ∈ wsX0_init := by decide +kernel
theorem zl_X0_init_nX5 : Cond.initialized RX5 ∈ wsX0_init := by decide +kernel
theorem zl_X0_init_nX5c : Cond.initialized yX5_init.cls ∈ wsX0_init := by decide +kernel
theorem zl_X0_init_o3 : Cond.methodLink RX0 3 objectInit ∈ wsX0_init := by decide +kernel
theorem zl_X0_init_oc : Cond.code objectInit ⟨#[0xb1]⟩ 1 none ∈ wsX0_init := by decide +kernel
theorem zl_X0_init_oi : Cond.instanceMethod objectInit ∈ wsX0_init := by decide +kernel
theorem zd_X0_init : yX0_init.cls ≠ "java/lang/invoke/MethodHandle" ∧ yX0_init.cls ≠ "java/lang/invoke/VarHandle" ∧ (parseMethodDescriptor yX0_init.desc).map (fun d => d.parameters.length) = some 0 := by decide +kernel
set_option maxHeartbeats 4000000 in
set_option maxRecDepth 100000 in
theorem c_X0_init (l : Launch) (D : va_G) (cI cZ cO : ClassId) (hC : Nat) : z_Nv l yX0_init wsX0_init 2 43 14 656 D (z_T cI cZ cO) [.ref hC] ([(hC, .inr (0, [.null, .null, .null, .int (z_I 0), .int (z_I 0), .int (z_I 0), .int (z_I 0), .int (z_I 0)]))]) (fun w => ∃ q : Nat → Nat, w = z_ctc cI cZ hC (q 1) (q 2) (q 3) (q 4) (q 5) (q 6) (q 7) (q 8) (q 9) (q 10) (q 11) (q 12) (q 13) (q 14) z_ct0) := by
  refine z_Nv_of (cc := cX0_init) (nL := 1) (ret := none) (by decide +kernel) rfl rfl (Nat.le_of_ble_eq_true rfl) ?_
  intro p e s m args below meth c A Q C hinit hN hQ
  change z_V p l e { frames := 2, cells := 14, slots := 656, locals := 43 } s m args below meth c D A 1 0 0 Q ([(hC, .inr (0, [.null, .null, .null, .int (z_I 0), .int (z_I 0), .int (z_I 0), .int (z_I 0), .int (z_I 0)]))]) 0 [(0, .ref hC)] []
  refine z_aload_n C 0 dX0_init_0 rfl ?_
  refine z_obj C zl_X0_init_o3 zl_X0_init_oi zl_X0_init_oc (by decide) (Nat.le_of_ble_eq_true rfl) dX0_init_1 ?_
  refine z_aload_n C 0 dX0_init_4 rfl ?_
  refine z_new (ci := 5) (fs := [.int (z_I 0), .int (z_I 0), .int (z_I 0), .int (z_I 0), .null, .null, .null]) C (fun hW => [(hC, .inr (0, [.null, .null, .null, .int (z_I 0), .int (z_I 0), .int (z_I 0), .int (z_I 0), .int (z_I 0)])), (hW, .inr (5, [.int (z_I 0), .int (z_I 0), .int (z_I 0), .int (z_I 0), .null, .null, .null]))]) zi_X0_init_X5 tyX5_ok zl_X0_init_c9 zl_X0_init_iX5 zl_X0_init_nX5 rfl (fun j hj => by rcases (show j = 0 ∨ j = 1 ∨ j = 2 ∨ j = 3 ∨ j = 4 ∨ j = 5 ∨ j = 6 by omega) with rfl | rfl | rfl | rfl | rfl | rfl | rfl <;> rfl) ⟨Nat.le_of_ble_eq_true rfl, Nat.le_of_ble_eq_true rfl⟩ (fun hW => rfl) dX0_init_5 (fun hW => ?_)
  refine z_dup C dX0_init_8 rfl ?_
  refine z_callN C hN ([(hC, .inr (0, [.null, .null, .null, .int (z_I 0), .int (z_I 0), .int (z_I 0), .int (z_I 0), .int (z_I 0)]))]) (c_X5_init l D cI cZ cO hW) gX0_init_X5_init rfl zl_X0_init_l11 zl_X0_init_mX5 zl_X0_init_nX5c rfl zd_X5_init (by decide) rfl (Nat.le_of_ble_eq_true rfl) ⟨Nat.le_of_ble_eq_true rfl, Nat.le_of_ble_eq_true rfl⟩ dX0_init_9 (fun w9 hw9 => ?_)
  obtain ⟨aD, aN, aU, rfl⟩ := hw9
  refine z_ws ([(hC, .inr (0, [.null, .null, .null, .int (z_I 0), .int (z_I 0), .int (z_I 0), .int (z_I 0), .int (z_I 0)])), (hW, .inr (5, [.int (z_I 0), .int (z_I 4), .int (z_I 0), .int (z_I 0), .ref aD, .ref aN, .ref aU])), (aD, z_ai cI 5 (fun _ => 3)), (aN, z_ai cI 5 (fun _ => 0)), (aU, z_ai cI 105 (fun _ => 0))]) rfl ?_
  refine z_putF C 0 0 ([(hC, .inr (0, [.ref hW, .null, .null, .int (z_I 0), .int (z_I 0), .int (z_I 0), .int (z_I 0), .int (z_I 0)])), (hW, .inr (5, [.int (z_I 0), .int (z_I 4), .int (z_I 0), .int (z_I 0), .ref aD, .ref aN, .ref aU])), (aD, z_ai cI 5 (fun _ => 3)), (aN, z_ai cI 5 (fun _ => 0)), (aU, z_ai cI 105 (fun _ => 0))]) hinit zi_X0_init_X0 tyX0_ok nmX0 rfl rfl (by decide) zl_X0_init_f12 rfl rfl rfl rfl rfl (Nat.le_of_ble_eq_true rfl) rfl dX0_init_12 ?_
  refine z_aload_n C 0 dX0_init_15 rfl ?_
  refine z_new (ci := 3) (fs := [.int (z_I 0), .null, .null, .null, .null]) C (fun hR => [(hC, .inr (0, [.ref hW, .null, .null, .int (z_I 0), .int (z_I 0), .int (z_I 0), .int (z_I 0), .int (z_I 0)])), (hW, .inr (5, [.int (z_I 0), .int (z_I 4), .int (z_I 0), .int (z_I 0), .ref aD, .ref aN, .ref aU])), (aD, z_ai cI 5 (fun _ => 3)), (aN, z_ai cI 5 (fun _ => 0)), (aU, z_ai cI 105 (fun _ => 0)), (hR, .inr (3, [.int (z_I 0), .null, .null, .null, .null]))]) zi_X0_init_X3 tyX3_ok zl_X0_init_c18 zl_X0_init_iX3 zl_X0_init_nX3 rfl (fun j hj => by rcases (show j = 0 ∨ j = 1 ∨ j = 2 ∨ j = 3 ∨ j = 4 by omega) with rfl | rfl | rfl | rfl | rfl <;> rfl) ⟨Nat.le_of_ble_eq_true rfl, Nat.le_of_ble_eq_true rfl⟩ (fun hR => rfl) dX0_init_16 (fun hR => ?_)
  refine z_dup C dX0_init_19 rfl ?_
  refine z_callNN (host := RX6) C hN ([(hC, .inr (0, [.ref hW, .null, .null, .int (z_I 0), .int (z_I 0), .int (z_I 0), .int (z_I 0), .int (z_I 0)])), (hW, .inr (5, [.int (z_I 0), .int (z_I 4), .int (z_I 0), .int (z_I 0), .ref aD, .ref aN, .ref aU])), (aD, z_ai cI 5 (fun _ => 3)), (aN, z_ai cI 5 (fun _ => 0)), (aU, z_ai cI 105 (fun _ => 0))]) (c_X3_init l D cI cZ cO hR) gX0_init_X3_init_n20 rfl hN.2.1 zl_X0_init_mX3 zl_X0_init_nX3c rfl zd_X3_init (by decide) rfl (Nat.le_of_ble_eq_true rfl) ⟨Nat.le_of_ble_eq_true rfl, Nat.le_of_ble_eq_true rfl⟩ dX0_init_20 (fun w9 hw9 => ?_)
  obtain ⟨aR1, aR2, aR3, aR4, rfl⟩ := hw9
  refine z_ws ([(hC, .inr (0, [.ref hW, .null, .null, .int (z_I 0), .int (z_I 0), .int (z_I 0), .int (z_I 0), .int (z_I 0)])), (hW, .inr (5, [.int (z_I 0), .int (z_I 4), .int (z_I 0), .int (z_I 0), .ref aD, .ref aN, .ref aU])), (aD, z_ai cI 5 (fun _ => 3)), (aN, z_ai cI 5 (fun _ => 0)), (aU, z_ai cI 105 (fun _ => 0)), (hR, .inr (3, [.int (z_I 0), .ref aR1, .ref aR2, .ref aR3, .ref aR4])), (aR1, z_ai cI 99 (fun _ => 0)), (aR2, z_ai cI 99 (fun _ => 0)), (aR3, z_ai cI 99 (fun _ => 0)), (aR4, z_ai cI 99 (fun _ => 0))]) rfl ?_
  refine z_putF C 0 1 ([(hC, .inr (0, [.ref hW, .ref hR, .null, .int (z_I 0), .int (z_I 0), .int (z_I 0), .int (z_I 0), .int (z_I 0)])), (hW, .inr (5, [.int (z_I 0), .int (z_I 4), .int (z_I 0), .int (z_I 0), .ref aD, .ref aN, .ref aU])), (aD, z_ai cI 5 (fun _ => 3)), (aN, z_ai cI 5 (fun _ => 0)), (aU, z_ai cI 105 (fun _ => 0)), (hR, .inr (3, [.int (z_I 0), .ref aR1, .ref aR2, .ref aR3, .ref aR4])), (aR1, z_ai cI 99 (fun _ => 0)), (aR2, z_ai cI 99 (fun _ => 0)), (aR3, z_ai cI 99 (fun _ => 0)), (aR4, z_ai cI 99 (fun _ => 0))]) hinit zi_X0_init_X0 tyX0_ok nmX0 rfl rfl (by decide) zl_X0_init_f21 rfl rfl rfl rfl rfl (Nat.le_of_ble_eq_true rfl) rfl dX0_init_23 ?_
  refine z_aload_n C 0 dX0_init_26 rfl ?_
  refine z_new (ci := 4) (fs := [.int (z_I 0), .null, .null, .null, .null]) C (fun hS => [(hC, .inr (0, [.ref hW, .ref hR, .null, .int (z_I 0), .int (z_I 0), .int (z_I 0), .int (z_I 0), .int (z_I 0)])), (hW, .inr (5, [.int (z_I 0), .int (z_I 4), .int (z_I 0), .int (z_I 0), .ref aD, .ref aN, .ref aU])), (aD, z_ai cI 5 (fun _ => 3)), (aN, z_ai cI 5 (fun _ => 0)), (aU, z_ai cI 105 (fun _ => 0)), (hR, .inr (3, [.int (z_I 0), .ref aR1, .ref aR2, .ref aR3, .ref aR4])), (aR1, z_ai cI 99 (fun _ => 0)), (aR2, z_ai cI 99 (fun _ => 0)), (aR3, z_ai cI 99 (fun _ => 0)), (aR4, z_ai cI 99 (fun _ => 0)), (hS, .inr (4, [.int (z_I 0), .null, .null, .null, .null]))]) zi_X0_init_X4 tyX4_ok zl_X0_init_c25 zl_X0_init_iX4 zl_X0_init_nX4 rfl (fun j hj => by rcases (show j = 0 ∨ j = 1 ∨ j = 2 ∨ j = 3 ∨ j = 4 by omega) with rfl | rfl | rfl | rfl | rfl <;> rfl) ⟨Nat.le_of_ble_eq_true rfl, Nat.le_of_ble_eq_true rfl⟩ (fun hS => rfl) dX0_init_27 (fun hS => ?_)
  refine z_dup C dX0_init_30 rfl ?_
  refine z_callNN (host := RX6) C hN ([(hC, .inr (0, [.ref hW, .ref hR, .null, .int (z_I 0), .int (z_I 0), .int (z_I 0), .int (z_I 0), .int (z_I 0)])), (hW, .inr (5, [.int (z_I 0), .int (z_I 4), .int (z_I 0), .int (z_I 0), .ref aD, .ref aN, .ref aU])), (aD, z_ai cI 5 (fun _ => 3)), (aN, z_ai cI 5 (fun _ => 0)), (aU, z_ai cI 105 (fun _ => 0)), (hR, .inr (3, [.int (z_I 0), .ref aR1, .ref aR2, .ref aR3, .ref aR4])), (aR1, z_ai cI 99 (fun _ => 0)), (aR2, z_ai cI 99 (fun _ => 0)), (aR3, z_ai cI 99 (fun _ => 0)), (aR4, z_ai cI 99 (fun _ => 0))]) (c_X4_init l D cI cZ cO hS) gX0_init_X4_init_n27 rfl hN.2.2.1 zl_X0_init_mX4 zl_X0_init_nX4c rfl zd_X4_init (by decide) rfl (Nat.le_of_ble_eq_true rfl) ⟨Nat.le_of_ble_eq_true rfl, Nat.le_of_ble_eq_true rfl⟩ dX0_init_31 (fun w9 hw9 => ?_)
  obtain ⟨aS1, aS2, aS3, aS4, rfl⟩ := hw9
  refine z_ws ([(hC, .inr (0, [.ref hW, .ref hR, .null, .int (z_I 0), .int (z_I 0), .int (z_I 0), .int (z_I 0), .int (z_I 0)])), (hW, .inr (5, [.int (z_I 0), .int (z_I 4), .int (z_I 0), .int (z_I 0), .ref aD, .ref aN, .ref aU])), (aD, z_ai cI 5 (fun _ => 3)), (aN, z_ai cI 5 (fun _ => 0)), (aU, z_ai cI 105 (fun _ => 0)), (hR, .inr (3, [.int (z_I 0), .ref aR1, .ref aR2, .ref aR3, .ref aR4])), (aR1, z_ai cI 99 (fun _ => 0)), (aR2, z_ai cI 99 (fun _ => 0)), (aR3, z_ai cI 99 (fun _ => 0)), (aR4, z_ai cI 99 (fun _ => 0)), (hS, .inr (4, [.int (z_I 0), .ref aS1, .ref aS2, .ref aS3, .ref aS4])), (aS1, z_ai cI 32 (fun _ => 0)), (aS2, z_ai cI 32 (fun _ => 0)), (aS3, z_ai cI 32 (fun _ => 0)), (aS4, z_ai cI 32 (fun _ => 0))]) rfl ?_
  refine z_putF C 0 2 ([(hC, .inr (0, [.ref hW, .ref hR, .ref hS, .int (z_I 0), .int (z_I 0), .int (z_I 0), .int (z_I 0), .int (z_I 0)])), (hW, .inr (5, [.int (z_I 0), .int (z_I 4), .int (z_I 0), .int (z_I 0), .ref aD, .ref aN, .ref aU])), (aD, z_ai cI 5 (fun _ => 3)), (aN, z_ai cI 5 (fun _ => 0)), (aU, z_ai cI 105 (fun _ => 0)), (hR, .inr (3, [.int (z_I 0), .ref aR1, .ref aR2, .ref aR3, .ref aR4])), (aR1, z_ai cI 99 (fun _ => 0)), (aR2, z_ai cI 99 (fun _ => 0)), (aR3, z_ai cI 99 (fun _ => 0)), (aR4, z_ai cI 99 (fun _ => 0)), (hS, .inr (4, [.int (z_I 0), .ref aS1, .ref aS2, .ref aS3, .ref aS4])), (aS1, z_ai cI 32 (fun _ => 0)), (aS2, z_ai cI 32 (fun _ => 0)), (aS3, z_ai cI 32 (fun _ => 0)), (aS4, z_ai cI 32 (fun _ => 0))]) hinit zi_X0_init_X0 tyX0_ok nmX0 rfl rfl (by decide) zl_X0_init_f28 rfl rfl rfl rfl rfl (Nat.le_of_ble_eq_true rfl) rfl dX0_init_34 ?_
  refine z_aload_n C 0 dX0_init_37 rfl ?_
  refine z_iconst C 2 dX0_init_38 ?_
  refine z_put C 0 3 ([(hC, .inr (0, [.ref hW, .ref hR, .ref hS, .int (z_I 2), .int (z_I 0), .int (z_I 0), .int (z_I 0), .int (z_I 0)])), (hW, .inr (5, [.int (z_I 0), .int (z_I 4), .int (z_I 0), .int (z_I 0), .ref aD, .ref aN, .ref aU])), (aD, z_ai cI 5 (fun _ => 3)), (aN, z_ai cI 5 (fun _ => 0)), (aU, z_ai cI 105 (fun _ => 0)), (hR, .inr (3, [.int (z_I 0), .ref aR1, .ref aR2, .ref aR3, .ref aR4])), (aR1, z_ai cI 99 (fun _ => 0)), (aR2, z_ai cI 99 (fun _ => 0)), (aR3, z_ai cI 99 (fun _ => 0)), (aR4, z_ai cI 99 (fun _ => 0)), (hS, .inr (4, [.int (z_I 0), .ref aS1, .ref aS2, .ref aS3, .ref aS4])), (aS1, z_ai cI 32 (fun _ => 0)), (aS2, z_ai cI 32 (fun _ => 0)), (aS3, z_ai cI 32 (fun _ => 0)), (aS4, z_ai cI 32 (fun _ => 0))]) zi_X0_init_X0 tyX0_ok nmX0 rfl rfl (by decide) zl_X0_init_f32 rfl rfl rfl rfl (Nat.le_of_ble_eq_true rfl) rfl dX0_init_39 ?_
  refine z_aload_n C 0 dX0_init_42 rfl ?_
  refine z_iconst C (-1) dX0_init_43 ?_
  refine z_put C 0 5 ([(hC, .inr (0, [.ref hW, .ref hR, .ref hS, .int (z_I 2), .int (z_I 0), .int (z_I (-1)), .int (z_I 0), .int (z_I 0)])), (hW, .inr (5, [.int (z_I 0), .int (z_I 4), .int (z_I 0), .int (z_I 0), .ref aD, .ref aN, .ref aU])), (aD, z_ai cI 5 (fun _ => 3)), (aN, z_ai cI 5 (fun _ => 0)), (aU, z_ai cI 105 (fun _ => 0)), (hR, .inr (3, [.int (z_I 0), .ref aR1, .ref aR2, .ref aR3, .ref aR4])), (aR1, z_ai cI 99 (fun _ => 0)), (aR2, z_ai cI 99 (fun _ => 0)), (aR3, z_ai cI 99 (fun _ => 0)), (aR4, z_ai cI 99 (fun _ => 0)), (hS, .inr (4, [.int (z_I 0), .ref aS1, .ref aS2, .ref aS3, .ref aS4])), (aS1, z_ai cI 32 (fun _ => 0)), (aS2, z_ai cI 32 (fun _ => 0)), (aS3, z_ai cI 32 (fun _ => 0)), (aS4, z_ai cI 32 (fun _ => 0))]) zi_X0_init_X0 tyX0_ok nmX0 rfl rfl (by decide) zl_X0_init_f36 rfl rfl rfl rfl (Nat.le_of_ble_eq_true rfl) rfl dX0_init_44 ?_
  refine z_aload_n C 0 dX0_init_47 rfl ?_
  refine z_iconst C (-1) dX0_init_48 ?_
  refine z_put C 0 6 ([(hC, .inr (0, [.ref hW, .ref hR, .ref hS, .int (z_I 2), .int (z_I 0), .int (z_I (-1)), .int (z_I (-1)), .int (z_I 0)])), (hW, .inr (5, [.int (z_I 0), .int (z_I 4), .int (z_I 0), .int (z_I 0), .ref aD, .ref aN, .ref aU])), (aD, z_ai cI 5 (fun _ => 3)), (aN, z_ai cI 5 (fun _ => 0)), (aU, z_ai cI 105 (fun _ => 0)), (hR, .inr (3, [.int (z_I 0), .ref aR1, .ref aR2, .ref aR3, .ref aR4])), (aR1, z_ai cI 99 (fun _ => 0)), (aR2, z_ai cI 99 (fun _ => 0)), (aR3, z_ai cI 99 (fun _ => 0)), (aR4, z_ai cI 99 (fun _ => 0)), (hS, .inr (4, [.int (z_I 0), .ref aS1, .ref aS2, .ref aS3, .ref aS4])), (aS1, z_ai cI 32 (fun _ => 0)), (aS2, z_ai cI 32 (fun _ => 0)), (aS3, z_ai cI 32 (fun _ => 0)), (aS4, z_ai cI 32 (fun _ => 0))]) zi_X0_init_X0 tyX0_ok nmX0 rfl rfl (by decide) zl_X0_init_f39 rfl rfl rfl rfl (Nat.le_of_ble_eq_true rfl) rfl dX0_init_49 ?_
  exact z_nret C hQ rfl rfl ⟨(fun i => ([0, hW, aD, aN, aU, hR, aR1, aR2, aR3, aR4, hS, aS1, aS2, aS3, aS4] : List Nat).getD i 0), rfl⟩ dX0_init_52
