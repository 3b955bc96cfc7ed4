theorem z_rl_fresh : z_rl z_ct00 (fun _ _ => True) (fun _ _ => 0) 0 (z_u (z_u (z_u (z_u (z_u (z_u (z_u (fun _ => 0) 0 4) 1 2) (9 + 0) 3) (9 + 1) 3) (9 + 2) 3) (9 + 3) 3) (9 + 4) 3) := by
  refine ⟨⟨by decide, by decide, by decide, by decide, by decide, by decide, by decide, by decide, by decide⟩, fun k k1 k2 => ?_, fun k i k1 k2 i1 i2 _ => ?_, fun i i1 i2 => ?_, fun i i1 i2 => ?_⟩
  · refine ⟨?_, ?_, ?_⟩
    · rcases (show k = 0 ∨ k = 1 ∨ k = 2 ∨ k = 3 ∨ k = 4 by omega) with rfl | rfl | rfl | rfl | rfl <;> decide
    · rw [z_u_ne (by omega), z_u_ne (by omega), z_u_ne (by omega), z_u_ne (by omega), z_u_ne (by omega), z_u_ne (by omega), z_u_ne (by omega)]
      exact (z_bit0 k).symm
    · rw [z_u_ne (by omega), z_u_ne (by omega), z_u_ne (by omega), z_u_ne (by omega), z_u_ne (by omega), z_u_ne (by omega), z_u_ne (by omega)]
      rfl
  · rw [z_u_ne (by omega), z_u_ne (by omega), z_u_ne (by omega), z_u_ne (by omega), z_u_ne (by omega), z_u_ne (by omega), z_u_ne (by omega)]
  · exact absurd (show i < 0 from i2) (by omega)
  · exact absurd (show i < 0 from i2) (by omega)
theorem zi_X7_init_X7 : ∀ w ∈ u_ws RX7 TX7 7, w ∈ wsX7_init := by decide +kernel
theorem zl_X7_init_aI : Cond.arrayClass .int ∈ wsX7_init := by decide +kernel
theorem zl_X7_init_aZ : Cond.arrayClass .boolean ∈ wsX7_init := by decide +kernel
theorem zl_X7_init_f13 : Cond.fieldLink RX7 13 "RippleCountsModel" "past" "[I" ∈ wsX7_init := by decide +kernel
theorem zl_X7_init_f16 : Cond.fieldLink RX7 16 "RippleCountsModel" "slots" "[I" ∈ wsX7_init := by decide +kernel
theorem zl_X7_init_f19 : Cond.fieldLink RX7 19 "RippleCountsModel" "isSaved" "[Z" ∈ wsX7_init := by decide +kernel
theorem zl_X7_init_f23 : Cond.fieldLink RX7 23 "RippleCountsModel" "pad" "[I" ∈ wsX7_init := by decide +kernel
theorem zl_X7_init_f7 : Cond.fieldLink RX7 7 "RippleCountsModel" "s" "[I" ∈ wsX7_init := by decide +kernel
theorem zl_X7_init_o1 : Cond.methodLink RX7 1 objectInit ∈ wsX7_init := by decide +kernel
theorem zl_X7_init_oc : Cond.code objectInit ⟨#[0xb1]⟩ 1 none ∈ wsX7_init := by decide +kernel
theorem zl_X7_init_oi : Cond.instanceMethod objectInit ∈ wsX7_init := by decide +kernel
theorem zd_X7_init : yX7_init.cls ≠ "java/lang/invoke/MethodHandle" ∧ yX7_init.cls ≠ "java/lang/invoke/VarHandle" ∧ (parseMethodDescriptor yX7_init.desc).map (fun d => d.parameters.length) = some 0 := by decide +kernel
set_option maxHeartbeats 4000000 in
set_option maxRecDepth 100000 in
theorem c_X7_init (l : Launch) (D : va_G) (cI cZ cO : ClassId) (hM : Nat) : z_Nv l yX7_init wsX7_init 1 22 5 3642 D (z_T cI cZ cO) [.ref hM] ([(hM, .inr (7, [.null, .null, .int (z_I 0), .null, .null, .null, .int (z_I 0)]))]) (fun w => ∃ (aS aPa aSl aSv aPd : Nat) (u : Int → Int), z_rel z_ct0 0 u ∧ w = [(hM, .inr (7, [.ref aS, .ref aPa, .int (z_I 0), .ref aSl, .ref aSv, .ref aPd, .int (z_I 0)])), (aS, z_ai cI 712 u), (aPa, z_ai cI 2136 (fun _ => 0)), (aSl, z_ai cI 712 (fun _ => 0)), (aSv, z_ai cZ 2 (fun _ => 0)), (aPd, z_ai cI 80 (fun _ => 0))]) := by
  refine z_Nv_of (cc := cX7_init) (nL := 2) (ret := none) (by decide +kernel) rfl rfl (Nat.le_of_ble_eq_true rfl) ?_
  intro p e s m args below meth c A Q C hinit hN hQ
  change z_V p l e { frames := 1, cells := 5, slots := 3642, locals := 22 } s m args below meth c D A 2 0 0 Q ([(hM, .inr (7, [.null, .null, .int (z_I 0), .null, .null, .null, .int (z_I 0)]))]) 0 [(0, .ref hM)] []
  refine z_aload_n C 0 dX7_init_0 rfl ?_
  refine z_obj C zl_X7_init_o1 zl_X7_init_oi zl_X7_init_oc (by decide) (Nat.le_of_ble_eq_true rfl) dX7_init_1 ?_
  refine z_aload_n C 0 dX7_init_4 rfl ?_
  refine z_sipush C 712 dX7_init_5 (by decide) ?_
  refine z_newa C 0 712 (fun aS => [(hM, .inr (7, [.null, .null, .int (z_I 0), .null, .null, .null, .int (z_I 0)])), (aS, z_ai cI 712 (fun _ => 0))]) rfl zl_X7_init_aI rfl (Or.inl rfl) rfl (by decide) ⟨Nat.le_of_ble_eq_true rfl, Nat.le_of_ble_eq_true rfl⟩ (fun aS => rfl) dX7_init_8 (fun aS => ?_)
  refine z_putF C 0 0 ([(hM, .inr (7, [.ref aS, .null, .int (z_I 0), .null, .null, .null, .int (z_I 0)])), (aS, z_ai cI 712 (fun _ => 0))]) hinit zi_X7_init_X7 tyX7_ok nmX7 rfl rfl (by decide) zl_X7_init_f7 rfl rfl rfl rfl rfl (Nat.le_of_ble_eq_true rfl) rfl dX7_init_10 ?_
  refine z_aload_n C 0 dX7_init_13 rfl ?_
  refine z_sipush C 2136 dX7_init_14 (by decide) ?_
  refine z_newa C 0 2136 (fun aPa => [(hM, .inr (7, [.ref aS, .null, .int (z_I 0), .null, .null, .null, .int (z_I 0)])), (aS, z_ai cI 712 (fun _ => 0)), (aPa, z_ai cI 2136 (fun _ => 0))]) rfl zl_X7_init_aI rfl (Or.inl rfl) rfl (by decide) ⟨Nat.le_of_ble_eq_true rfl, Nat.le_of_ble_eq_true rfl⟩ (fun aPa => rfl) dX7_init_17 (fun aPa => ?_)
  refine z_putF C 0 1 ([(hM, .inr (7, [.ref aS, .ref aPa, .int (z_I 0), .null, .null, .null, .int (z_I 0)])), (aS, z_ai cI 712 (fun _ => 0)), (aPa, z_ai cI 2136 (fun _ => 0))]) hinit zi_X7_init_X7 tyX7_ok nmX7 rfl rfl (by decide) zl_X7_init_f13 rfl rfl rfl rfl rfl (Nat.le_of_ble_eq_true rfl) rfl dX7_init_19 ?_
  refine z_aload_n C 0 dX7_init_22 rfl ?_
  refine z_sipush C 712 dX7_init_23 (by decide) ?_
  refine z_newa C 0 712 (fun aSl => [(hM, .inr (7, [.ref aS, .ref aPa, .int (z_I 0), .null, .null, .null, .int (z_I 0)])), (aS, z_ai cI 712 (fun _ => 0)), (aPa, z_ai cI 2136 (fun _ => 0)), (aSl, z_ai cI 712 (fun _ => 0))]) rfl zl_X7_init_aI rfl (Or.inl rfl) rfl (by decide) ⟨Nat.le_of_ble_eq_true rfl, Nat.le_of_ble_eq_true rfl⟩ (fun aSl => rfl) dX7_init_26 (fun aSl => ?_)
  refine z_putF C 0 3 ([(hM, .inr (7, [.ref aS, .ref aPa, .int (z_I 0), .ref aSl, .null, .null, .int (z_I 0)])), (aS, z_ai cI 712 (fun _ => 0)), (aPa, z_ai cI 2136 (fun _ => 0)), (aSl, z_ai cI 712 (fun _ => 0))]) hinit zi_X7_init_X7 tyX7_ok nmX7 rfl rfl (by decide) zl_X7_init_f16 rfl rfl rfl rfl rfl (Nat.le_of_ble_eq_true rfl) rfl dX7_init_28 ?_
  refine z_aload_n C 0 dX7_init_31 rfl ?_
  refine z_iconst C 2 dX7_init_32 ?_
  refine z_newa C 1 2 (fun aSv => [(hM, .inr (7, [.ref aS, .ref aPa, .int (z_I 0), .ref aSl, .null, .null, .int (z_I 0)])), (aS, z_ai cI 712 (fun _ => 0)), (aPa, z_ai cI 2136 (fun _ => 0)), (aSl, z_ai cI 712 (fun _ => 0)), (aSv, z_ai cZ 2 (fun _ => 0))]) rfl zl_X7_init_aZ rfl (Or.inr rfl) rfl (by decide) ⟨Nat.le_of_ble_eq_true rfl, Nat.le_of_ble_eq_true rfl⟩ (fun aSv => rfl) dX7_init_33 (fun aSv => ?_)
  refine z_putF C 0 4 ([(hM, .inr (7, [.ref aS, .ref aPa, .int (z_I 0), .ref aSl, .ref aSv, .null, .int (z_I 0)])), (aS, z_ai cI 712 (fun _ => 0)), (aPa, z_ai cI 2136 (fun _ => 0)), (aSl, z_ai cI 712 (fun _ => 0)), (aSv, z_ai cZ 2 (fun _ => 0))]) hinit zi_X7_init_X7 tyX7_ok nmX7 rfl rfl (by decide) zl_X7_init_f19 rfl rfl rfl rfl rfl (Nat.le_of_ble_eq_true rfl) rfl dX7_init_35 ?_
  refine z_aload_n C 0 dX7_init_38 rfl ?_
  refine z_bipush C 80 dX7_init_39 (by decide) ?_
  refine z_newa C 0 80 (fun aPd => [(hM, .inr (7, [.ref aS, .ref aPa, .int (z_I 0), .ref aSl, .ref aSv, .null, .int (z_I 0)])), (aS, z_ai cI 712 (fun _ => 0)), (aPa, z_ai cI 2136 (fun _ => 0)), (aSl, z_ai cI 712 (fun _ => 0)), (aSv, z_ai cZ 2 (fun _ => 0)), (aPd, z_ai cI 80 (fun _ => 0))]) rfl zl_X7_init_aI rfl (Or.inl rfl) rfl (by decide) ⟨Nat.le_of_ble_eq_true rfl, Nat.le_of_ble_eq_true rfl⟩ (fun aPd => rfl) dX7_init_41 (fun aPd => ?_)
  refine z_putF C 0 5 ([(hM, .inr (7, [.ref aS, .ref aPa, .int (z_I 0), .ref aSl, .ref aSv, .ref aPd, .int (z_I 0)])), (aS, z_ai cI 712 (fun _ => 0)), (aPa, z_ai cI 2136 (fun _ => 0)), (aSl, z_ai cI 712 (fun _ => 0)), (aSv, z_ai cZ 2 (fun _ => 0)), (aPd, z_ai cI 80 (fun _ => 0))]) hinit zi_X7_init_X7 tyX7_ok nmX7 rfl rfl (by decide) zl_X7_init_f23 rfl rfl rfl rfl rfl (Nat.le_of_ble_eq_true rfl) rfl dX7_init_43 ?_
  refine z_aload_n C 0 dX7_init_46 rfl ?_
  refine z_get C 0 0 zi_X7_init_X7 rfl rfl (by decide) zl_X7_init_f7 rfl rfl dX7_init_47 ?_
  refine z_iconst C 0 dX7_init_50 ?_
  refine z_iconst C 4 dX7_init_51 ?_
  refine z_iast C 1 0 ([(hM, .inr (7, [.ref aS, .ref aPa, .int (z_I 0), .ref aSl, .ref aSv, .ref aPd, .int (z_I 0)])), (aS, z_ai cI 712 (z_u (fun _ => 0) 0 4)), (aPa, z_ai cI 2136 (fun _ => 0)), (aSl, z_ai cI 712 (fun _ => 0)), (aSv, z_ai cZ 2 (fun _ => 0)), (aPd, z_ai cI 80 (fun _ => 0))]) rfl rfl (by decide) (by omega) rfl dX7_init_52 ?_
  refine z_aload_n C 0 dX7_init_53 rfl ?_
  refine z_get C 0 0 zi_X7_init_X7 rfl rfl (by decide) zl_X7_init_f7 rfl rfl dX7_init_54 ?_
  refine z_iconst C 1 dX7_init_57 ?_
  refine z_iconst C 2 dX7_init_58 ?_
  refine z_iast C 1 0 ([(hM, .inr (7, [.ref aS, .ref aPa, .int (z_I 0), .ref aSl, .ref aSv, .ref aPd, .int (z_I 0)])), (aS, z_ai cI 712 (z_u (z_u (fun _ => 0) 0 4) 1 2)), (aPa, z_ai cI 2136 (fun _ => 0)), (aSl, z_ai cI 712 (fun _ => 0)), (aSv, z_ai cZ 2 (fun _ => 0)), (aPd, z_ai cI 80 (fun _ => 0))]) rfl rfl (by decide) (by omega) rfl dX7_init_59 ?_
  refine z_iconst C 0 dX7_init_60 ?_
  refine z_istore_n C [(1, .int (z_I 0)), (0, .ref hM)] dX7_init_61 (by decide) rfl ?_
  refine z_iload_n C 0 dX7_init_62 rfl ?_
  refine z_iconst C 5 dX7_init_63 ?_
  refine z_icmp_ge C 83 dX7_init_64 (by decide) (by omega) (by omega) (fun hc0 => absurd hc0 (by omega)) (fun _ => ?_)
  refine z_aload_n C 1 dX7_init_67 rfl ?_
  refine z_get C 0 0 zi_X7_init_X7 rfl rfl (by decide) zl_X7_init_f7 rfl rfl dX7_init_68 ?_
  refine z_bipush C 9 dX7_init_71 (by decide) ?_
  refine z_iload_n C 0 dX7_init_73 rfl ?_
  refine z_iadd C dX7_init_74 ?_
  refine z_iconst C 3 dX7_init_75 ?_
  refine z_iast C 1 0 ([(hM, .inr (7, [.ref aS, .ref aPa, .int (z_I 0), .ref aSl, .ref aSv, .ref aPd, .int (z_I 0)])), (aS, z_ai cI 712 (z_u (z_u (z_u (fun _ => 0) 0 4) 1 2) (9 + 0) 3)), (aPa, z_ai cI 2136 (fun _ => 0)), (aSl, z_ai cI 712 (fun _ => 0)), (aSv, z_ai cZ 2 (fun _ => 0)), (aPd, z_ai cI 80 (fun _ => 0))]) rfl rfl (by decide) (by omega) rfl dX7_init_76 ?_
  refine z_iinc C 0 [(1, .int (z_I 1)), (0, .ref hM)] dX7_init_77 rfl (by decide) rfl ?_
  refine z_goto C 62 dX7_init_80 (by decide) ?_
  refine z_iload_n C 0 dX7_init_62 rfl ?_
  refine z_iconst C 5 dX7_init_63 ?_
  refine z_icmp_ge C 83 dX7_init_64 (by decide) (by omega) (by omega) (fun hc1 => absurd hc1 (by omega)) (fun _ => ?_)
  refine z_aload_n C 1 dX7_init_67 rfl ?_
  refine z_get C 0 0 zi_X7_init_X7 rfl rfl (by decide) zl_X7_init_f7 rfl rfl dX7_init_68 ?_
  refine z_bipush C 9 dX7_init_71 (by decide) ?_
  refine z_iload_n C 0 dX7_init_73 rfl ?_
  refine z_iadd C dX7_init_74 ?_
  refine z_iconst C 3 dX7_init_75 ?_
  refine z_iast C 1 0 ([(hM, .inr (7, [.ref aS, .ref aPa, .int (z_I 0), .ref aSl, .ref aSv, .ref aPd, .int (z_I 0)])), (aS, z_ai cI 712 (z_u (z_u (z_u (z_u (fun _ => 0) 0 4) 1 2) (9 + 0) 3) (9 + 1) 3)), (aPa, z_ai cI 2136 (fun _ => 0)), (aSl, z_ai cI 712 (fun _ => 0)), (aSv, z_ai cZ 2 (fun _ => 0)), (aPd, z_ai cI 80 (fun _ => 0))]) rfl rfl (by decide) (by omega) rfl dX7_init_76 ?_
  refine z_iinc C 0 [(1, .int (z_I 2)), (0, .ref hM)] dX7_init_77 rfl (by decide) rfl ?_
  refine z_goto C 62 dX7_init_80 (by decide) ?_
  refine z_iload_n C 0 dX7_init_62 rfl ?_
  refine z_iconst C 5 dX7_init_63 ?_
  refine z_icmp_ge C 83 dX7_init_64 (by decide) (by omega) (by omega) (fun hc2 => absurd hc2 (by omega)) (fun _ => ?_)
  refine z_aload_n C 1 dX7_init_67 rfl ?_
  refine z_get C 0 0 zi_X7_init_X7 rfl rfl (by decide) zl_X7_init_f7 rfl rfl dX7_init_68 ?_
  refine z_bipush C 9 dX7_init_71 (by decide) ?_
  refine z_iload_n C 0 dX7_init_73 rfl ?_
  refine z_iadd C dX7_init_74 ?_
  refine z_iconst C 3 dX7_init_75 ?_
  refine z_iast C 1 0 ([(hM, .inr (7, [.ref aS, .ref aPa, .int (z_I 0), .ref aSl, .ref aSv, .ref aPd, .int (z_I 0)])), (aS, z_ai cI 712 (z_u (z_u (z_u (z_u (z_u (fun _ => 0) 0 4) 1 2) (9 + 0) 3) (9 + 1) 3) (9 + 2) 3)), (aPa, z_ai cI 2136 (fun _ => 0)), (aSl, z_ai cI 712 (fun _ => 0)), (aSv, z_ai cZ 2 (fun _ => 0)), (aPd, z_ai cI 80 (fun _ => 0))]) rfl rfl (by decide) (by omega) rfl dX7_init_76 ?_
  refine z_iinc C 0 [(1, .int (z_I 3)), (0, .ref hM)] dX7_init_77 rfl (by decide) rfl ?_
  refine z_goto C 62 dX7_init_80 (by decide) ?_
  refine z_iload_n C 0 dX7_init_62 rfl ?_
  refine z_iconst C 5 dX7_init_63 ?_
  refine z_icmp_ge C 83 dX7_init_64 (by decide) (by omega) (by omega) (fun hc3 => absurd hc3 (by omega)) (fun _ => ?_)
  refine z_aload_n C 1 dX7_init_67 rfl ?_
  refine z_get C 0 0 zi_X7_init_X7 rfl rfl (by decide) zl_X7_init_f7 rfl rfl dX7_init_68 ?_
  refine z_bipush C 9 dX7_init_71 (by decide) ?_
  refine z_iload_n C 0 dX7_init_73 rfl ?_
  refine z_iadd C dX7_init_74 ?_
  refine z_iconst C 3 dX7_init_75 ?_
  refine z_iast C 1 0 ([(hM, .inr (7, [.ref aS, .ref aPa, .int (z_I 0), .ref aSl, .ref aSv, .ref aPd, .int (z_I 0)])), (aS, z_ai cI 712 (z_u (z_u (z_u (z_u (z_u (z_u (fun _ => 0) 0 4) 1 2) (9 + 0) 3) (9 + 1) 3) (9 + 2) 3) (9 + 3) 3)), (aPa, z_ai cI 2136 (fun _ => 0)), (aSl, z_ai cI 712 (fun _ => 0)), (aSv, z_ai cZ 2 (fun _ => 0)), (aPd, z_ai cI 80 (fun _ => 0))]) rfl rfl (by decide) (by omega) rfl dX7_init_76 ?_
  refine z_iinc C 0 [(1, .int (z_I 4)), (0, .ref hM)] dX7_init_77 rfl (by decide) rfl ?_
  refine z_goto C 62 dX7_init_80 (by decide) ?_
  refine z_iload_n C 0 dX7_init_62 rfl ?_
  refine z_iconst C 5 dX7_init_63 ?_
  refine z_icmp_ge C 83 dX7_init_64 (by decide) (by omega) (by omega) (fun hc4 => absurd hc4 (by omega)) (fun _ => ?_)
  refine z_aload_n C 1 dX7_init_67 rfl ?_
  refine z_get C 0 0 zi_X7_init_X7 rfl rfl (by decide) zl_X7_init_f7 rfl rfl dX7_init_68 ?_
  refine z_bipush C 9 dX7_init_71 (by decide) ?_
  refine z_iload_n C 0 dX7_init_73 rfl ?_
  refine z_iadd C dX7_init_74 ?_
  refine z_iconst C 3 dX7_init_75 ?_
  refine z_iast C 1 0 ([(hM, .inr (7, [.ref aS, .ref aPa, .int (z_I 0), .ref aSl, .ref aSv, .ref aPd, .int (z_I 0)])), (aS, z_ai cI 712 (z_u (z_u (z_u (z_u (z_u (z_u (z_u (fun _ => 0) 0 4) 1 2) (9 + 0) 3) (9 + 1) 3) (9 + 2) 3) (9 + 3) 3) (9 + 4) 3)), (aPa, z_ai cI 2136 (fun _ => 0)), (aSl, z_ai cI 712 (fun _ => 0)), (aSv, z_ai cZ 2 (fun _ => 0)), (aPd, z_ai cI 80 (fun _ => 0))]) rfl rfl (by decide) (by omega) rfl dX7_init_76 ?_
  refine z_iinc C 0 [(1, .int (z_I 5)), (0, .ref hM)] dX7_init_77 rfl (by decide) rfl ?_
  refine z_goto C 62 dX7_init_80 (by decide) ?_
  refine z_iload_n C 0 dX7_init_62 rfl ?_
  refine z_iconst C 5 dX7_init_63 ?_
  refine z_icmp_ge C 83 dX7_init_64 (by decide) (by omega) (by omega) (fun _ => ?_) (fun hc5 => absurd (show (5 : Int) ≤ 5 by omega) hc5)
  refine z_aload_n C 1 dX7_init_83 rfl ?_
  refine z_iconst C 0 dX7_init_84 ?_
  have hrl := z_rl_fresh
  refine z_callEv C [0, 1] (fun u => [(hM, .inr (7, [.ref aS, .ref aPa, .int (z_I 0), .ref aSl, .ref aSv, .ref aPd, .int (z_I 0)])), (aS, z_ai cI 712 u), (aPa, z_ai cI 2136 (fun _ => 0)), (aSl, z_ai cI 712 (fun _ => 0)), (aSv, z_ai cZ 2 (fun _ => 0)), (aPd, z_ai cI 80 (fun _ => 0))]) [.int (z_I 0)] [] (c_X7_begins l D cI cZ cO hM aS aPa aSl aSv aPd 0 0 (z_u (z_u (z_u (z_u (z_u (z_u (z_u (fun _ => 0) 0 4) 1 2) (9 + 0) 3) (9 + 1) 3) (9 + 2) 3) (9 + 3) 3) (9 + 4) 3) 0 z_ct00 (fun _ _ => True) (fun _ _ => 0) (by omega) hrl) gX7_init_X7_begins rfl zd_X7_begins rfl (by decide) rfl rfl rfl (by decide) (fun _ => rfl) (fun _ => rfl) rfl (Nat.le_of_ble_eq_true rfl) ⟨Nat.le_of_ble_eq_true rfl, Nat.le_of_ble_eq_true rfl⟩ dX7_init_85 (fun u hu => ?_)
  exact z_nret C hQ rfl rfl ⟨aS, aPa, aSl, aSv, aPd, u, hu.1, rfl⟩ dX7_init_88
