theorem zd_X2_isDigit : yX2_isDigit.cls ≠ "java/lang/invoke/MethodHandle" ∧ yX2_isDigit.cls ≠ "java/lang/invoke/VarHandle" ∧ (parseMethodDescriptor yX2_isDigit.desc).map (fun d => d.parameters.length) = some 1 := by decide +kernel
set_option maxHeartbeats 4000000 in
set_option maxRecDepth 100000 in
theorem c_X2_isDigit (l : Launch) (D : va_G) (cI cZ cO : ClassId) (x : Int) (hx : -100000 ≤ x ∧ x < 100000) : z_Mi l yX2_isDigit wsX2_isDigit 0 0 D (z_T cI cZ cO) [.int (z_I x)] ([]) ([]) (if 48 ≤ x ∧ x ≤ 57 then 1 else 0) := by
  refine z_Mi_of (cc := cX2_isDigit) (nL := 1) (ret := (some .boolean)) (by decide +kernel) rfl (Nat.le_of_ble_eq_true rfl) ?_
  intro p e s m args below meth c A Q C hQ
  change z_V p l e { frames := 0, cells := 0, slots := 0, locals := 0 } s m args below meth c D A 1 0 0 Q ([]) 0 [(0, .int (z_I x))] []
  refine z_iload_n C 0 dX2_isDigit_0 rfl ?_
  refine z_bipush C 48 dX2_isDigit_1 (by decide) ?_
  refine z_icmp_lt C 16 dX2_isDigit_3 (by decide) (by omega) (by omega) (fun hc1 => ?_) (fun hc1 => ?_)
  · skip
    refine z_iconst C 0 dX2_isDigit_16 ?_
    exact z_zret C hQ rfl (by first | rfl | omega | ((repeat' split) <;> omega)) (by omega) dX2_isDigit_17
  · skip
    refine z_iload_n C 0 dX2_isDigit_6 rfl ?_
    refine z_bipush C 57 dX2_isDigit_7 (by decide) ?_
    refine z_icmp_gt C 16 dX2_isDigit_9 (by decide) (by omega) (by omega) (fun hc2 => ?_) (fun hc2 => ?_)
    · skip
      refine z_iconst C 0 dX2_isDigit_16 ?_
      exact z_zret C hQ rfl (by first | rfl | omega | ((repeat' split) <;> omega)) (by omega) dX2_isDigit_17
    · skip
      refine z_iconst C 1 dX2_isDigit_12 ?_
      refine z_goto C 17 dX2_isDigit_13 (by decide) ?_
      exact z_zret C hQ rfl (by first | rfl | omega | ((repeat' split) <;> omega)) (by omega) dX2_isDigit_17
theorem zd_X2_afterOrder : yX2_afterOrder.cls ≠ "java/lang/invoke/MethodHandle" ∧ yX2_afterOrder.cls ≠ "java/lang/invoke/VarHandle" ∧ (parseMethodDescriptor yX2_afterOrder.desc).map (fun d => d.parameters.length) = some 1 := by decide +kernel
set_option maxHeartbeats 4000000 in
set_option maxRecDepth 100000 in
theorem c_X2_afterOrder (l : Launch) (D : va_G) (cI cZ cO : ClassId) (x : Int) (hx : -100000 ≤ x ∧ x < 100000) : z_Mi l yX2_afterOrder wsX2_afterOrder 0 0 D (z_T cI cZ cO) [.int (z_I x)] ([]) ([]) (z_ao x) := by
  refine z_Mi_of (cc := cX2_afterOrder) (nL := 1) (ret := (some .int)) (by decide +kernel) rfl (Nat.le_of_ble_eq_true rfl) ?_
  intro p e s m args below meth c A Q C hQ
  change z_V p l e { frames := 0, cells := 0, slots := 0, locals := 0 } s m args below meth c D A 1 0 0 Q ([]) 0 [(0, .int (z_I x))] []
  refine z_iload_n C 0 dX2_afterOrder_0 rfl ?_
  refine z_bipush C 59 dX2_afterOrder_1 (by decide) ?_
  refine z_icmp_ne C 10 dX2_afterOrder_3 (by decide) (by omega) (by omega) (fun hc1 => ?_) (fun hc1 => ?_)
  · skip
    refine z_bipush C 7 dX2_afterOrder_10 (by decide) ?_
    exact z_iret C hQ rfl (by unfold z_ao; (repeat' split) <;> omega) dX2_afterOrder_12
  · skip
    refine z_iconst C 0 dX2_afterOrder_6 ?_
    refine z_goto C 12 dX2_afterOrder_7 (by decide) ?_
    exact z_iret C hQ rfl (by unfold z_ao; (repeat' split) <;> omega) dX2_afterOrder_12
theorem zd_X2_afterFirstDigit : yX2_afterFirstDigit.cls ≠ "java/lang/invoke/MethodHandle" ∧ yX2_afterFirstDigit.cls ≠ "java/lang/invoke/VarHandle" ∧ (parseMethodDescriptor yX2_afterFirstDigit.desc).map (fun d => d.parameters.length) = some 1 := by decide +kernel
set_option maxHeartbeats 4000000 in
set_option maxRecDepth 100000 in
theorem c_X2_afterFirstDigit (l : Launch) (D : va_G) (cI cZ cO : ClassId) (x : Int) (hx : -100000 ≤ x ∧ x < 100000) : z_Mi l yX2_afterFirstDigit wsX2_afterFirstDigit 1 20 D (z_T cI cZ cO) [.int (z_I x)] ([]) ([]) (z_af x) := by
  refine z_Mi_of (cc := cX2_afterFirstDigit) (nL := 1) (ret := (some .int)) (by decide +kernel) rfl (Nat.le_of_ble_eq_true rfl) ?_
  intro p e s m args below meth c A Q C hQ
  change z_V p l e { frames := 1, cells := 0, slots := 0, locals := 20 } s m args below meth c D A 1 0 0 Q ([]) 0 [(0, .int (z_I x))] []
  refine z_iload_n C 0 dX2_afterFirstDigit_0 rfl ?_
  refine z_callSi C [] [] [.int (z_I x)] [] (c_X2_isDigit l D cI cZ cO x (by first | assumption | omega)) gX2_afterFirstDigit_X2_isDigit rfl zd_X2_isDigit rfl (by decide) rfl (by decide) rfl rfl rfl (Nat.le_of_ble_eq_true rfl) (by decide) dX2_afterFirstDigit_1 ?_
  refine z_if_ne C 10 dX2_afterFirstDigit_4 (by decide) (by omega) (fun hc1 => ?_) (fun hc1 => ?_)
  · skip
    have hz := z_if1.mp hc1
    refine z_iload_n C 0 dX2_afterFirstDigit_10 rfl ?_
    refine z_bipush C 48 dX2_afterFirstDigit_11 (by decide) ?_
    refine z_icmp_ne C 20 dX2_afterFirstDigit_13 (by decide) (by omega) (by omega) (fun hc2 => ?_) (fun hc2 => ?_)
    · skip
      refine z_iconst C 3 dX2_afterFirstDigit_20 ?_
      exact z_iret C hQ rfl (by unfold z_af; (repeat' split) <;> omega) dX2_afterFirstDigit_21
    · skip
      refine z_iconst C 4 dX2_afterFirstDigit_16 ?_
      refine z_goto C 21 dX2_afterFirstDigit_17 (by decide) ?_
      exact z_iret C hQ rfl (by unfold z_af; (repeat' split) <;> omega) dX2_afterFirstDigit_21
  · skip
    have hz := z_if0.mp hc1
    refine z_bipush C 7 dX2_afterFirstDigit_7 (by decide) ?_
    exact z_iret C hQ rfl (by unfold z_af; (repeat' split) <;> omega) dX2_afterFirstDigit_9
theorem zd_X2_afterLetter : yX2_afterLetter.cls ≠ "java/lang/invoke/MethodHandle" ∧ yX2_afterLetter.cls ≠ "java/lang/invoke/VarHandle" ∧ (parseMethodDescriptor yX2_afterLetter.desc).map (fun d => d.parameters.length) = some 1 := by decide +kernel
set_option maxHeartbeats 4000000 in
set_option maxRecDepth 100000 in
theorem c_X2_afterLetter (l : Launch) (D : va_G) (cI cZ cO : ClassId) (x : Int) (hx : -100000 ≤ x ∧ x < 100000) : z_Mi l yX2_afterLetter wsX2_afterLetter 0 0 D (z_T cI cZ cO) [.int (z_I x)] ([]) ([]) (z_al x) := by
  refine z_Mi_of (cc := cX2_afterLetter) (nL := 1) (ret := (some .int)) (by decide +kernel) rfl (Nat.le_of_ble_eq_true rfl) ?_
  intro p e s m args below meth c A Q C hQ
  change z_V p l e { frames := 0, cells := 0, slots := 0, locals := 0 } s m args below meth c D A 1 0 0 Q ([]) 0 [(0, .int (z_I x))] []
  refine z_iload_n C 0 dX2_afterLetter_0 rfl ?_
  by_cases hc1 : x = 99
  · skip
    refine z_look C 52 dX2_afterLetter_1 (by decide +kernel) (by omega) (by rw [hc1]) (by decide) ?_
    refine z_iconst C 1 dX2_afterLetter_52 ?_
    exact z_iret C hQ rfl (by unfold z_al; (repeat' split) <;> omega) dX2_afterLetter_53
  by_cases hc2 : x = 100
  · skip
    refine z_look C 56 dX2_afterLetter_1 (by decide +kernel) (by omega) (by rw [hc2]) (by decide) ?_
    refine z_iconst C 5 dX2_afterLetter_56 ?_
    exact z_iret C hQ rfl (by unfold z_al; (repeat' split) <;> omega) dX2_afterLetter_57
  by_cases hc3 : x = 114
  · skip
    refine z_look C 58 dX2_afterLetter_1 (by decide +kernel) (by omega) (by rw [hc3]) (by decide) ?_
    refine z_iconst C 4 dX2_afterLetter_58 ?_
    exact z_iret C hQ rfl (by unfold z_al; (repeat' split) <;> omega) dX2_afterLetter_59
  by_cases hc4 : x = 116
  · skip
    refine z_look C 54 dX2_afterLetter_1 (by decide +kernel) (by omega) (by rw [hc4]) (by decide) ?_
    refine z_iconst C 2 dX2_afterLetter_54 ?_
    exact z_iret C hQ rfl (by unfold z_al; (repeat' split) <;> omega) dX2_afterLetter_55
  by_cases hc5 : x = 119
  · skip
    refine z_look C 58 dX2_afterLetter_1 (by decide +kernel) (by omega) (by rw [hc5]) (by decide) ?_
    refine z_iconst C 4 dX2_afterLetter_58 ?_
    exact z_iret C hQ rfl (by unfold z_al; (repeat' split) <;> omega) dX2_afterLetter_59
  refine z_look C 60 dX2_afterLetter_1 (by decide +kernel) (by omega) (z_off5 hc1 hc2 hc3 hc4 hc5) (by decide) ?_
  refine z_bipush C 7 dX2_afterLetter_60 (by decide) ?_
  exact z_iret C hQ rfl (by unfold z_al; (repeat' split) <;> omega) dX2_afterLetter_62
theorem zd_X2_placeAfter : yX2_placeAfter.cls ≠ "java/lang/invoke/MethodHandle" ∧ yX2_placeAfter.cls ≠ "java/lang/invoke/VarHandle" ∧ (parseMethodDescriptor yX2_placeAfter.desc).map (fun d => d.parameters.length) = some 2 := by decide +kernel
set_option maxHeartbeats 4000000 in
set_option maxRecDepth 100000 in
theorem c_X2_placeAfter (l : Launch) (D : va_G) (cI cZ cO : ClassId) (q x : Int) (hx : -100000 ≤ x ∧ x < 100000) (hq : -100000 ≤ q ∧ q < 100000) : z_Mi l yX2_placeAfter wsX2_placeAfter 2 40 D (z_T cI cZ cO) [.int (z_I q), .int (z_I x)] ([]) ([]) (z_pa q x) := by
  refine z_Mi_of (cc := cX2_placeAfter) (nL := 2) (ret := (some .int)) (by decide +kernel) rfl (Nat.le_of_ble_eq_true rfl) ?_
  intro p e s m args below meth c A Q C hQ
  change z_V p l e { frames := 2, cells := 0, slots := 0, locals := 40 } s m args below meth c D A 2 0 0 Q ([]) 0 [(0, .int (z_I q)), (1, .int (z_I x))] []
  refine z_iload_n C 0 dX2_placeAfter_0 rfl ?_
  by_cases hc1 : q = 0
  · skip
    refine z_tabI C 44 0 dX2_placeAfter_1 hc1 (by decide) rfl (by decide) ?_
    refine z_iload_n C 1 dX2_placeAfter_44 rfl ?_
    refine z_callSi C [] [] [.int (z_I x)] [] (c_X2_afterLetter l D cI cZ cO x (by first | assumption | omega)) gX2_placeAfter_X2_afterLetter rfl zd_X2_afterLetter rfl (by decide) rfl (by decide) rfl rfl rfl (Nat.le_of_ble_eq_true rfl) (by decide) dX2_placeAfter_45 ?_
    exact z_iret C hQ rfl (by unfold z_pa; (repeat' split) <;> omega) dX2_placeAfter_48
  by_cases hc2 : q = 1
  · skip
    refine z_tabI C 49 1 dX2_placeAfter_1 hc2 (by decide) rfl (by decide) ?_
    refine z_iload_n C 1 dX2_placeAfter_49 rfl ?_
    refine z_callSi C [] [] [.int (z_I x)] [] (c_X2_isDigit l D cI cZ cO x (by first | assumption | omega)) gX2_placeAfter_X2_isDigit rfl zd_X2_isDigit rfl (by decide) rfl (by decide) rfl rfl rfl (Nat.le_of_ble_eq_true rfl) (by decide) dX2_placeAfter_50 ?_
    refine z_if_eq C 63 dX2_placeAfter_53 (by decide) (by omega) (fun hc3 => ?_) (fun hc3 => ?_)
    · skip
      have hz := z_if0.mp hc3
      refine z_iload_n C 1 dX2_placeAfter_63 rfl ?_
      refine z_callSi C [] [] [.int (z_I x)] [] (c_X2_afterOrder l D cI cZ cO x (by first | assumption | omega)) gX2_placeAfter_X2_afterOrder rfl zd_X2_afterOrder rfl (by decide) rfl (by decide) rfl rfl rfl (Nat.le_of_ble_eq_true rfl) (by decide) dX2_placeAfter_64 ?_
      exact z_iret C hQ rfl (by unfold z_pa; (repeat' split) <;> omega) dX2_placeAfter_67
    · skip
      have hz := z_if1.mp hc3
      refine z_iload_n C 1 dX2_placeAfter_56 rfl ?_
      refine z_callSi C [] [] [.int (z_I x)] [] (c_X2_afterFirstDigit l D cI cZ cO x (by first | assumption | omega)) gX2_placeAfter_X2_afterFirstDigit rfl zd_X2_afterFirstDigit rfl (by decide) rfl (by decide) rfl rfl rfl (Nat.le_of_ble_eq_true rfl) (by decide) dX2_placeAfter_57 ?_
      refine z_goto C 67 dX2_placeAfter_60 (by decide) ?_
      exact z_iret C hQ rfl (by unfold z_pa; (repeat' split) <;> omega) dX2_placeAfter_67
  by_cases hc4 : q = 2
  · skip
    refine z_tabI C 68 2 dX2_placeAfter_1 hc4 (by decide) rfl (by decide) ?_
    refine z_iload_n C 1 dX2_placeAfter_68 rfl ?_
    refine z_callSi C [] [] [.int (z_I x)] [] (c_X2_afterFirstDigit l D cI cZ cO x (by first | assumption | omega)) gX2_placeAfter_X2_afterFirstDigit rfl zd_X2_afterFirstDigit rfl (by decide) rfl (by decide) rfl rfl rfl (Nat.le_of_ble_eq_true rfl) (by decide) dX2_placeAfter_69 ?_
    exact z_iret C hQ rfl (by unfold z_pa; (repeat' split) <;> omega) dX2_placeAfter_72
  by_cases hc5 : q = 3
  · skip
    refine z_tabI C 73 3 dX2_placeAfter_1 hc5 (by decide) rfl (by decide) ?_
    refine z_iload_n C 1 dX2_placeAfter_73 rfl ?_
    refine z_callSi C [] [] [.int (z_I x)] [] (c_X2_isDigit l D cI cZ cO x (by first | assumption | omega)) gX2_placeAfter_X2_isDigit rfl zd_X2_isDigit rfl (by decide) rfl (by decide) rfl rfl rfl (Nat.le_of_ble_eq_true rfl) (by decide) dX2_placeAfter_74 ?_
    refine z_if_eq C 84 dX2_placeAfter_77 (by decide) (by omega) (fun hc6 => ?_) (fun hc6 => ?_)
    · skip
      have hz := z_if0.mp hc6
      refine z_iload_n C 1 dX2_placeAfter_84 rfl ?_
      refine z_callSi C [] [] [.int (z_I x)] [] (c_X2_afterOrder l D cI cZ cO x (by first | assumption | omega)) gX2_placeAfter_X2_afterOrder rfl zd_X2_afterOrder rfl (by decide) rfl (by decide) rfl rfl rfl (Nat.le_of_ble_eq_true rfl) (by decide) dX2_placeAfter_85 ?_
      exact z_iret C hQ rfl (by unfold z_pa; (repeat' split) <;> omega) dX2_placeAfter_88
    · skip
      have hz := z_if1.mp hc6
      refine z_iconst C 4 dX2_placeAfter_80 ?_
      refine z_goto C 88 dX2_placeAfter_81 (by decide) ?_
      exact z_iret C hQ rfl (by unfold z_pa; (repeat' split) <;> omega) dX2_placeAfter_88
  by_cases hc7 : q = 4
  · skip
    refine z_tabI C 89 4 dX2_placeAfter_1 hc7 (by decide) rfl (by decide) ?_
    refine z_iload_n C 1 dX2_placeAfter_89 rfl ?_
    refine z_callSi C [] [] [.int (z_I x)] [] (c_X2_afterOrder l D cI cZ cO x (by first | assumption | omega)) gX2_placeAfter_X2_afterOrder rfl zd_X2_afterOrder rfl (by decide) rfl (by decide) rfl rfl rfl (Nat.le_of_ble_eq_true rfl) (by decide) dX2_placeAfter_90 ?_
    exact z_iret C hQ rfl (by unfold z_pa; (repeat' split) <;> omega) dX2_placeAfter_93
  by_cases hc8 : q = 5
  · skip
    refine z_tabI C 94 5 dX2_placeAfter_1 hc8 (by decide) rfl (by decide) ?_
    refine z_iload_n C 1 dX2_placeAfter_94 rfl ?_
    refine z_callSi C [] [] [.int (z_I x)] [] (c_X2_isDigit l D cI cZ cO x (by first | assumption | omega)) gX2_placeAfter_X2_isDigit rfl zd_X2_isDigit rfl (by decide) rfl (by decide) rfl rfl rfl (Nat.le_of_ble_eq_true rfl) (by decide) dX2_placeAfter_95 ?_
    refine z_if_eq C 106 dX2_placeAfter_98 (by decide) (by omega) (fun hc9 => ?_) (fun hc9 => ?_)
    · skip
      have hz := z_if0.mp hc9
      refine z_bipush C 7 dX2_placeAfter_106 (by decide) ?_
      exact z_iret C hQ rfl (by unfold z_pa; (repeat' split) <;> omega) dX2_placeAfter_108
    · skip
      have hz := z_if1.mp hc9
      refine z_bipush C 6 dX2_placeAfter_101 (by decide) ?_
      refine z_goto C 108 dX2_placeAfter_103 (by decide) ?_
      exact z_iret C hQ rfl (by unfold z_pa; (repeat' split) <;> omega) dX2_placeAfter_108
  by_cases hc10 : q = 6
  · skip
    refine z_tabI C 109 6 dX2_placeAfter_1 hc10 (by decide) rfl (by decide) ?_
    refine z_iload_n C 1 dX2_placeAfter_109 rfl ?_
    refine z_bipush C 61 dX2_placeAfter_110 (by decide) ?_
    refine z_icmp_ne C 119 dX2_placeAfter_112 (by decide) (by omega) (by omega) (fun hc11 => ?_) (fun hc11 => ?_)
    · skip
      refine z_bipush C 7 dX2_placeAfter_119 (by decide) ?_
      exact z_iret C hQ rfl (by unfold z_pa; (repeat' split) <;> omega) dX2_placeAfter_121
    · skip
      refine z_iconst C 2 dX2_placeAfter_115 ?_
      refine z_goto C 121 dX2_placeAfter_116 (by decide) ?_
      exact z_iret C hQ rfl (by unfold z_pa; (repeat' split) <;> omega) dX2_placeAfter_121
  refine z_tabO C 122 dX2_placeAfter_1 (by omega) (by omega) (by decide) ?_
  refine z_bipush C 7 dX2_placeAfter_122 (by decide) ?_
  exact z_iret C hQ rfl (by unfold z_pa; (repeat' split) <;> omega) dX2_placeAfter_124
theorem zi_X2_clear_X2 : ∀ w ∈ u_ws RX2 TX2 2, w ∈ wsX2_clear := by decide +kernel
theorem zl_X2_clear_19 : Cond.fieldLink RX2 19 "RippleCounts$Pad" "length" "I" ∈ wsX2_clear := by decide +kernel
theorem zd_X2_clear : yX2_clear.cls ≠ "java/lang/invoke/MethodHandle" ∧ yX2_clear.cls ≠ "java/lang/invoke/VarHandle" ∧ (parseMethodDescriptor yX2_clear.desc).map (fun d => d.parameters.length) = some 0 := by decide +kernel
set_option maxHeartbeats 4000000 in
set_option maxRecDepth 100000 in
theorem c_X2_clear (l : Launch) (D : va_G) (cI cZ cO : ClassId) (hP aP : Nat) (pl : Int) (sg : Int → Int) : z_Mi l yX2_clear wsX2_clear 0 0 D (z_T cI cZ cO) [.ref hP] ([(hP, .inr (2, [.int (z_I pl), .ref aP])), (aP, z_ai cI 80 sg)]) ([(hP, .inr (2, [.int (z_I 0), .ref aP])), (aP, z_ai cI 80 sg)]) pl := by
  refine z_Mi_of (cc := cX2_clear) (nL := 2) (ret := (some .int)) (by decide +kernel) rfl (Nat.le_of_ble_eq_true rfl) ?_
  intro p e s m args below meth c A Q C hQ
  change z_V p l e { frames := 0, cells := 0, slots := 0, locals := 0 } s m args below meth c D A 2 0 0 Q ([(hP, .inr (2, [.int (z_I pl), .ref aP])), (aP, z_ai cI 80 sg)]) 0 [(0, .ref hP)] []
  refine z_aload_n C 0 dX2_clear_0 rfl ?_
  refine z_get C 0 0 zi_X2_clear_X2 rfl rfl (by decide) zl_X2_clear_19 rfl rfl dX2_clear_1 ?_
  refine z_istore_n C [(1, .int (z_I pl)), (0, .ref hP)] dX2_clear_4 (by decide) rfl ?_
  refine z_aload_n C 1 dX2_clear_5 rfl ?_
  refine z_iconst C 0 dX2_clear_6 ?_
  refine z_put C 0 0 ([(hP, .inr (2, [.int (z_I 0), .ref aP])), (aP, z_ai cI 80 sg)]) zi_X2_clear_X2 tyX2_ok nmX2 rfl rfl (by decide) zl_X2_clear_19 rfl rfl rfl rfl (Nat.le_of_ble_eq_true rfl) rfl dX2_clear_7 ?_
  refine z_iload_n C 0 dX2_clear_10 rfl ?_
  exact z_iret C hQ rfl rfl dX2_clear_11
theorem zi_X2_signAt_X2 : ∀ w ∈ u_ws RX2 TX2 2, w ∈ wsX2_signAt := by decide +kernel
theorem zl_X2_signAt_19 : Cond.fieldLink RX2 19 "RippleCounts$Pad" "length" "I" ∈ wsX2_signAt := by decide +kernel
theorem zl_X2_signAt_9 : Cond.fieldLink RX2 9 "RippleCounts$Pad" "signs" "[I" ∈ wsX2_signAt := by decide +kernel
theorem zd_X2_signAt : yX2_signAt.cls ≠ "java/lang/invoke/MethodHandle" ∧ yX2_signAt.cls ≠ "java/lang/invoke/VarHandle" ∧ (parseMethodDescriptor yX2_signAt.desc).map (fun d => d.parameters.length) = some 1 := by decide +kernel
set_option maxHeartbeats 4000000 in
set_option maxRecDepth 100000 in
theorem c_X2_signAt (l : Launch) (D : va_G) (cI cZ cO : ClassId) (hP aP : Nat) (pl : Int) (sg : Int → Int) (k : Int) (hk : -1000 ≤ k ∧ k < 1000) (hpl : 0 ≤ pl ∧ pl ≤ 80) (hsg : ∀ i : Int, 0 ≤ i → i < pl → 0 ≤ sg i ∧ sg i < 256) : z_Mi l yX2_signAt wsX2_signAt 0 0 D (z_T cI cZ cO) [.ref hP, .int (z_I k)] ([(hP, .inr (2, [.int (z_I pl), .ref aP])), (aP, z_ai cI 80 sg)]) ([(hP, .inr (2, [.int (z_I pl), .ref aP])), (aP, z_ai cI 80 sg)]) (z_sg pl sg k) := by
  refine z_Mi_of (cc := cX2_signAt) (nL := 2) (ret := (some .int)) (by decide +kernel) rfl (Nat.le_of_ble_eq_true rfl) ?_
  intro p e s m args below meth c A Q C hQ
  change z_V p l e { frames := 0, cells := 0, slots := 0, locals := 0 } s m args below meth c D A 2 0 0 Q ([(hP, .inr (2, [.int (z_I pl), .ref aP])), (aP, z_ai cI 80 sg)]) 0 [(0, .ref hP), (1, .int (z_I k))] []
  refine z_iload_n C 1 dX2_signAt_0 rfl ?_
  refine z_if_lt C 21 dX2_signAt_1 (by decide) (by omega) (fun hc1 => ?_) (fun hc1 => ?_)
  · skip
    refine z_iconst C 0 dX2_signAt_21 ?_
    exact z_iret C hQ rfl (by unfold z_sg; (repeat' split) <;> omega) dX2_signAt_22
  · skip
    refine z_iload_n C 1 dX2_signAt_4 rfl ?_
    refine z_aload_n C 0 dX2_signAt_5 rfl ?_
    refine z_get C 0 0 zi_X2_signAt_X2 rfl rfl (by decide) zl_X2_signAt_19 rfl rfl dX2_signAt_6 ?_
    refine z_icmp_ge C 21 dX2_signAt_9 (by decide) (by omega) (by omega) (fun hc2 => ?_) (fun hc2 => ?_)
    · skip
      refine z_iconst C 0 dX2_signAt_21 ?_
      exact z_iret C hQ rfl (by unfold z_sg; (repeat' split) <;> omega) dX2_signAt_22
    · skip
      refine z_aload_n C 0 dX2_signAt_12 rfl ?_
      refine z_get C 0 1 zi_X2_signAt_X2 rfl rfl (by decide) zl_X2_signAt_9 rfl rfl dX2_signAt_13 ?_
      refine z_iload_n C 1 dX2_signAt_16 rfl ?_
      refine z_iald C 1 0 rfl rfl (by decide) (by omega) dX2_signAt_17 ?_
      refine z_goto C 22 dX2_signAt_18 (by decide) ?_
      exact z_iret C hQ rfl (by unfold z_sg; (repeat' split) <;> omega) dX2_signAt_22
theorem zd_X2_isDigitAt : yX2_isDigitAt.cls ≠ "java/lang/invoke/MethodHandle" ∧ yX2_isDigitAt.cls ≠ "java/lang/invoke/VarHandle" ∧ (parseMethodDescriptor yX2_isDigitAt.desc).map (fun d => d.parameters.length) = some 1 := by decide +kernel
set_option maxHeartbeats 4000000 in
set_option maxRecDepth 100000 in
theorem c_X2_isDigitAt (l : Launch) (D : va_G) (cI cZ cO : ClassId) (hP aP : Nat) (pl : Int) (sg : Int → Int) (k : Int) (hk : -1000 ≤ k ∧ k < 1000) (hpl : 0 ≤ pl ∧ pl ≤ 80) (hsg : ∀ i : Int, 0 ≤ i → i < pl → 0 ≤ sg i ∧ sg i < 256) : z_Mi l yX2_isDigitAt wsX2_isDigitAt 1 21 D (z_T cI cZ cO) [.ref hP, .int (z_I k)] ([(hP, .inr (2, [.int (z_I pl), .ref aP])), (aP, z_ai cI 80 sg)]) ([(hP, .inr (2, [.int (z_I pl), .ref aP])), (aP, z_ai cI 80 sg)]) (if 48 ≤ z_sg pl sg k ∧ z_sg pl sg k ≤ 57 then 1 else 0) := by
  refine z_Mi_of (cc := cX2_isDigitAt) (nL := 2) (ret := (some .boolean)) (by decide +kernel) rfl (Nat.le_of_ble_eq_true rfl) ?_
  intro p e s m args below meth c A Q C hQ
  change z_V p l e { frames := 1, cells := 0, slots := 0, locals := 21 } s m args below meth c D A 2 0 0 Q ([(hP, .inr (2, [.int (z_I pl), .ref aP])), (aP, z_ai cI 80 sg)]) 0 [(0, .ref hP), (1, .int (z_I k))] []
  refine z_aload_n C 0 dX2_isDigitAt_0 rfl ?_
  refine z_iload_n C 1 dX2_isDigitAt_1 rfl ?_
  refine z_callVi C [0, 1] [(hP, .inr (2, [.int (z_I pl), .ref aP])), (aP, z_ai cI 80 sg)] [.int (z_I k)] [] (c_X2_signAt l D cI cZ cO hP aP pl sg k (by first | assumption | omega) (by first | assumption | omega) (by first | assumption | omega)) gX2_isDigitAt_X2_signAt rfl zd_X2_signAt rfl (by decide) rfl rfl rfl (by decide) rfl rfl rfl (Nat.le_of_ble_eq_true rfl) (by decide) dX2_isDigitAt_2 ?_
  have hx0 := z_sg_rng hsg k
  refine z_callSi C [] [(hP, .inr (2, [.int (z_I pl), .ref aP])), (aP, z_ai cI 80 sg)] [.int (z_I (z_sg pl sg k))] [] (c_X2_isDigit l D cI cZ cO (z_sg pl sg k) (by first | assumption | omega)) gX2_isDigitAt_X2_isDigit rfl zd_X2_isDigit rfl (by decide) rfl (by decide) rfl rfl rfl (Nat.le_of_ble_eq_true rfl) (by decide) dX2_isDigitAt_5 ?_
  exact z_zret C hQ rfl rfl (by split <;> omega) dX2_isDigitAt_8
theorem zd_X2_digitAt : yX2_digitAt.cls ≠ "java/lang/invoke/MethodHandle" ∧ yX2_digitAt.cls ≠ "java/lang/invoke/VarHandle" ∧ (parseMethodDescriptor yX2_digitAt.desc).map (fun d => d.parameters.length) = some 1 := by decide +kernel
set_option maxHeartbeats 4000000 in
set_option maxRecDepth 100000 in
theorem c_X2_digitAt (l : Launch) (D : va_G) (cI cZ cO : ClassId) (hP aP : Nat) (pl : Int) (sg : Int → Int) (k : Int) (hk : -1000 ≤ k ∧ k < 1000) (hpl : 0 ≤ pl ∧ pl ≤ 80) (hsg : ∀ i : Int, 0 ≤ i → i < pl → 0 ≤ sg i ∧ sg i < 256) : z_Mi l yX2_digitAt wsX2_digitAt 1 21 D (z_T cI cZ cO) [.ref hP, .int (z_I k)] ([(hP, .inr (2, [.int (z_I pl), .ref aP])), (aP, z_ai cI 80 sg)]) ([(hP, .inr (2, [.int (z_I pl), .ref aP])), (aP, z_ai cI 80 sg)]) (z_sg pl sg k - 48) := by
  refine z_Mi_of (cc := cX2_digitAt) (nL := 2) (ret := (some .int)) (by decide +kernel) rfl (Nat.le_of_ble_eq_true rfl) ?_
  intro p e s m args below meth c A Q C hQ
  change z_V p l e { frames := 1, cells := 0, slots := 0, locals := 21 } s m args below meth c D A 2 0 0 Q ([(hP, .inr (2, [.int (z_I pl), .ref aP])), (aP, z_ai cI 80 sg)]) 0 [(0, .ref hP), (1, .int (z_I k))] []
  refine z_aload_n C 0 dX2_digitAt_0 rfl ?_
  refine z_iload_n C 1 dX2_digitAt_1 rfl ?_
  refine z_callVi C [0, 1] [(hP, .inr (2, [.int (z_I pl), .ref aP])), (aP, z_ai cI 80 sg)] [.int (z_I k)] [] (c_X2_signAt l D cI cZ cO hP aP pl sg k (by first | assumption | omega) (by first | assumption | omega) (by first | assumption | omega)) gX2_digitAt_X2_signAt rfl zd_X2_signAt rfl (by decide) rfl rfl rfl (by decide) rfl rfl rfl (Nat.le_of_ble_eq_true rfl) (by decide) dX2_digitAt_2 ?_
  refine z_bipush C 48 dX2_digitAt_5 (by decide) ?_
  refine z_isub C dX2_digitAt_7 ?_
  exact z_iret C hQ rfl (by first | rfl | omega | ((repeat' split) <;> omega)) dX2_digitAt_8
theorem zd_X2_numberAt : yX2_numberAt.cls ≠ "java/lang/invoke/MethodHandle" ∧ yX2_numberAt.cls ≠ "java/lang/invoke/VarHandle" ∧ (parseMethodDescriptor yX2_numberAt.desc).map (fun d => d.parameters.length) = some 1 := by decide +kernel
set_option maxHeartbeats 4000000 in
set_option maxRecDepth 100000 in
theorem c_X2_numberAt (l : Launch) (D : va_G) (cI cZ cO : ClassId) (hP aP : Nat) (pl : Int) (sg : Int → Int) (k : Int) (hk : -900 ≤ k ∧ k < 900) (hpl : 0 ≤ pl ∧ pl ≤ 80) (hsg : ∀ i : Int, 0 ≤ i → i < pl → 0 ≤ sg i ∧ sg i < 256) : z_Mi l yX2_numberAt wsX2_numberAt 2 42 D (z_T cI cZ cO) [.ref hP, .int (z_I k)] ([(hP, .inr (2, [.int (z_I pl), .ref aP])), (aP, z_ai cI 80 sg)]) ([(hP, .inr (2, [.int (z_I pl), .ref aP])), (aP, z_ai cI 80 sg)]) (z_nm pl sg k) := by
  refine z_Mi_of (cc := cX2_numberAt) (nL := 4) (ret := (some .int)) (by decide +kernel) rfl (Nat.le_of_ble_eq_true rfl) ?_
  intro p e s m args below meth c A Q C hQ
  change z_V p l e { frames := 2, cells := 0, slots := 0, locals := 42 } s m args below meth c D A 4 0 0 Q ([(hP, .inr (2, [.int (z_I pl), .ref aP])), (aP, z_ai cI 80 sg)]) 0 [(0, .ref hP), (1, .int (z_I k))] []
  refine z_iconst C 0 dX2_numberAt_0 ?_
  refine z_istore_n C [(2, .int (z_I 0)), (0, .ref hP), (1, .int (z_I k))] dX2_numberAt_1 (by decide) rfl ?_
  refine z_iload_n C 2 dX2_numberAt_2 rfl ?_
  refine z_istore_n C [(3, .int (z_I k)), (2, .int (z_I 0)), (0, .ref hP), (1, .int (z_I k))] dX2_numberAt_3 (by decide) rfl ?_
  have loop4 : ∀ (zn : Nat) (j : Int) (nb : Int), k ≤ j ∧ j ≤ k + 2 → (j = k ∧ nb = 0) ∨ (j = k + 1 ∧ (48 ≤ z_sg pl sg (k) ∧ z_sg pl sg (k) ≤ 57) ∧ nb = z_sg pl sg k - 48) ∨ (j = k + 2 ∧ (48 ≤ z_sg pl sg (k) ∧ z_sg pl sg (k) ≤ 57) ∧ (48 ≤ z_sg pl sg (k + 1) ∧ z_sg pl sg (k + 1) ≤ 57) ∧ nb = (z_sg pl sg k - 48) * 10 + (z_sg pl sg (k + 1) - 48)) → (k + 2 - j) < (zn : Int) → z_V p l e { frames := 2, cells := 0, slots := 0, locals := 42 } s m args below meth c D A 4 0 0 Q [(hP, .inr (2, [.int (z_I pl), .ref aP])), (aP, z_ai cI 80 sg)] 4 [(3, .int (z_I j)), (2, .int (z_I nb)), (0, .ref hP), (1, .int (z_I k))] [] := by
    intro zn
    induction zn with
    | zero => intro j nb hj ha hm4; exact absurd hm4 (by omega)
    | succ zn4 ih4 =>
      intro j nb hj ha hm4
      have hx0 := z_sg_rng hsg j
      refine z_aload_n C 2 dX2_numberAt_4 rfl ?_
      refine z_iload_n C 0 dX2_numberAt_5 rfl ?_
      refine z_callVi C [0, 1] [(hP, .inr (2, [.int (z_I pl), .ref aP])), (aP, z_ai cI 80 sg)] [.int (z_I j)] [] (c_X2_isDigitAt l D cI cZ cO hP aP pl sg j (by first | assumption | omega) (by first | assumption | omega) (by first | assumption | omega)) gX2_numberAt_X2_isDigitAt rfl zd_X2_isDigitAt rfl (by decide) rfl rfl rfl (by decide) rfl rfl rfl (Nat.le_of_ble_eq_true rfl) (by decide) dX2_numberAt_6 ?_
      refine z_if_eq C 36 dX2_numberAt_9 (by decide) (by omega) (fun hc1 => ?_) (fun hc1 => ?_)
      · skip
        have hz := z_if0.mp hc1
        refine z_iload_n C 1 dX2_numberAt_36 rfl ?_
        exact z_iret C hQ rfl (by unfold z_nm; rcases ha with ⟨rfl, rfl⟩ | ⟨rfl, ha⟩ | ⟨rfl, ha⟩ <;> ((repeat' split) <;> omega)) dX2_numberAt_37
      · skip
        have hz := z_if1.mp hc1
        refine z_iload_n C 0 dX2_numberAt_12 rfl ?_
        refine z_iload_n C 3 dX2_numberAt_13 rfl ?_
        refine z_iconst C 2 dX2_numberAt_14 ?_
        refine z_iadd C dX2_numberAt_15 ?_
        refine z_icmp_ge C 36 dX2_numberAt_16 (by decide) (by omega) (by omega) (fun hc2 => ?_) (fun hc2 => ?_)
        · skip
          refine z_iload_n C 1 dX2_numberAt_36 rfl ?_
          exact z_iret C hQ rfl (by unfold z_nm; rcases ha with ⟨rfl, rfl⟩ | ⟨rfl, ha⟩ | ⟨rfl, ha⟩ <;> ((repeat' split) <;> omega)) dX2_numberAt_37
        · skip
          refine z_iload_n C 1 dX2_numberAt_19 rfl ?_
          refine z_bipush C 10 dX2_numberAt_20 (by decide) ?_
          refine z_imul C dX2_numberAt_22 ?_
          refine z_aload_n C 2 dX2_numberAt_23 rfl ?_
          refine z_iload_n C 0 dX2_numberAt_24 rfl ?_
          refine z_callVi C [0, 1] [(hP, .inr (2, [.int (z_I pl), .ref aP])), (aP, z_ai cI 80 sg)] [.int (z_I j)] [.int (z_I (nb * 10))] (c_X2_digitAt l D cI cZ cO hP aP pl sg j (by first | assumption | omega) (by first | assumption | omega) (by first | assumption | omega)) gX2_numberAt_X2_digitAt rfl zd_X2_digitAt rfl (by decide) rfl rfl rfl (by decide) rfl rfl rfl (Nat.le_of_ble_eq_true rfl) (by decide) dX2_numberAt_25 ?_
          refine z_iadd C dX2_numberAt_28 ?_
          refine z_istore_n C [(2, .int (z_I ((nb * 10) + (z_sg pl sg j - 48)))), (3, .int (z_I j)), (0, .ref hP), (1, .int (z_I k))] dX2_numberAt_29 (by decide) rfl ?_
          refine z_iinc C 1 [(3, .int (z_I (j + 1))), (2, .int (z_I ((nb * 10) + (z_sg pl sg j - 48)))), (0, .ref hP), (1, .int (z_I k))] dX2_numberAt_30 rfl (by decide) rfl ?_
          refine z_goto C 4 dX2_numberAt_33 (by decide) ?_
          exact ih4 (j + 1) ((nb * 10) + (z_sg pl sg j - 48)) (by first | assumption | omega) (by rcases ha with ⟨rfl, rfl⟩ | ⟨rfl, ha⟩ | ⟨rfl, ha⟩; (· exact Or.inr (Or.inl ⟨rfl, hz, by omega⟩)); (· exact Or.inr (Or.inr ⟨by omega, ha.1, hz, by rw [ha.2]⟩)); (· omega)) (by omega)
  exact loop4 3 k 0 (by first | assumption | omega) (Or.inl ⟨rfl, rfl⟩) (by omega)
theorem zd_X2_ordersAt : yX2_ordersAt.cls ≠ "java/lang/invoke/MethodHandle" ∧ yX2_ordersAt.cls ≠ "java/lang/invoke/VarHandle" ∧ (parseMethodDescriptor yX2_ordersAt.desc).map (fun d => d.parameters.length) = some 1 := by decide +kernel
set_option maxHeartbeats 4000000 in
set_option maxRecDepth 100000 in
theorem c_X2_ordersAt (l : Launch) (D : va_G) (cI cZ cO : ClassId) (hP aP : Nat) (pl : Int) (sg : Int → Int) (k : Int) (hk : 0 ≤ k ∧ k < 800) (hpl : 0 ≤ pl ∧ pl ≤ 80) (hsg : ∀ i : Int, 0 ≤ i → i < pl → 0 ≤ sg i ∧ sg i < 256) : z_Mi l yX2_ordersAt wsX2_ordersAt 3 65 D (z_T cI cZ cO) [.ref hP, .int (z_I k)] ([(hP, .inr (2, [.int (z_I pl), .ref aP])), (aP, z_ai cI 80 sg)]) ([(hP, .inr (2, [.int (z_I pl), .ref aP])), (aP, z_ai cI 80 sg)]) (z_oa pl sg k) := by
  refine z_Mi_of (cc := cX2_ordersAt) (nL := 2) (ret := (some .int)) (by decide +kernel) rfl (Nat.le_of_ble_eq_true rfl) ?_
  intro p e s m args below meth c A Q C hQ
  change z_V p l e { frames := 3, cells := 0, slots := 0, locals := 65 } s m args below meth c D A 2 0 0 Q ([(hP, .inr (2, [.int (z_I pl), .ref aP])), (aP, z_ai cI 80 sg)]) 0 [(0, .ref hP), (1, .int (z_I k))] []
  refine z_iload_n C 1 dX2_ordersAt_0 rfl ?_
  refine z_if_le C 18 dX2_ordersAt_1 (by decide) (by omega) (fun hc1 => ?_) (fun hc1 => ?_)
  · skip
    refine z_aload_n C 0 dX2_ordersAt_18 rfl ?_
    refine z_iload_n C 1 dX2_ordersAt_19 rfl ?_
    refine z_callVi C [0, 1] [(hP, .inr (2, [.int (z_I pl), .ref aP])), (aP, z_ai cI 80 sg)] [.int (z_I k)] [] (c_X2_signAt l D cI cZ cO hP aP pl sg k (by first | assumption | omega) (by first | assumption | omega) (by first | assumption | omega)) gX2_ordersAt_X2_signAt rfl zd_X2_signAt rfl (by decide) rfl rfl rfl (by decide) rfl rfl rfl (Nat.le_of_ble_eq_true rfl) (by decide) dX2_ordersAt_20 ?_
    have hx1 := z_sg_rng hsg k
    refine z_bipush C 99 dX2_ordersAt_23 (by decide) ?_
    refine z_icmp_ne C 48 dX2_ordersAt_25 (by decide) (by omega) (by omega) (fun hc2 => ?_) (fun hc2 => ?_)
    · skip
      refine z_iconst C 1 dX2_ordersAt_48 ?_
      exact z_iret C hQ rfl (by unfold z_oa; first | (rw [if_neg (by omega), if_pos (by omega)]) | (rw [if_neg (by omega), if_neg (by omega)])) dX2_ordersAt_49
    · skip
      refine z_aload_n C 0 dX2_ordersAt_28 rfl ?_
      refine z_iload_n C 1 dX2_ordersAt_29 rfl ?_
      refine z_iconst C 1 dX2_ordersAt_30 ?_
      refine z_iadd C dX2_ordersAt_31 ?_
      refine z_callVi C [0, 1] [(hP, .inr (2, [.int (z_I pl), .ref aP])), (aP, z_ai cI 80 sg)] [.int (z_I (k + 1))] [] (c_X2_isDigitAt l D cI cZ cO hP aP pl sg (k + 1) (by first | assumption | omega) (by first | assumption | omega) (by first | assumption | omega)) gX2_ordersAt_X2_isDigitAt rfl zd_X2_isDigitAt rfl (by decide) rfl rfl rfl (by decide) rfl rfl rfl (Nat.le_of_ble_eq_true rfl) (by decide) dX2_ordersAt_32 ?_
      refine z_if_eq C 48 dX2_ordersAt_35 (by decide) (by omega) (fun hc3 => ?_) (fun hc3 => ?_)
      · skip
        have hz := z_if0.mp hc3
        refine z_iconst C 1 dX2_ordersAt_48 ?_
        exact z_iret C hQ rfl (by unfold z_oa; first | (rw [if_neg (by omega), if_pos (by omega)]) | (rw [if_neg (by omega), if_neg (by omega)])) dX2_ordersAt_49
      · skip
        have hz := z_if1.mp hc3
        refine z_aload_n C 0 dX2_ordersAt_38 rfl ?_
        refine z_iload_n C 1 dX2_ordersAt_39 rfl ?_
        refine z_iconst C 1 dX2_ordersAt_40 ?_
        refine z_iadd C dX2_ordersAt_41 ?_
        refine z_callVi C [0, 1] [(hP, .inr (2, [.int (z_I pl), .ref aP])), (aP, z_ai cI 80 sg)] [.int (z_I (k + 1))] [] (c_X2_numberAt l D cI cZ cO hP aP pl sg (k + 1) (by first | assumption | omega) (by first | assumption | omega) (by first | assumption | omega)) gX2_ordersAt_X2_numberAt rfl zd_X2_numberAt rfl (by decide) rfl rfl rfl (by decide) rfl rfl rfl (Nat.le_of_ble_eq_true rfl) (by decide) dX2_ordersAt_42 ?_
        refine z_goto C 49 dX2_ordersAt_45 (by decide) ?_
        exact z_iret C hQ rfl (by unfold z_oa; first | (rw [if_neg (by omega), if_pos (by omega)]) | (rw [if_neg (by omega), if_neg (by omega)])) dX2_ordersAt_49
  · skip
    refine z_aload_n C 0 dX2_ordersAt_4 rfl ?_
    refine z_iload_n C 1 dX2_ordersAt_5 rfl ?_
    refine z_iconst C 1 dX2_ordersAt_6 ?_
    refine z_isub C dX2_ordersAt_7 ?_
    refine z_callVi C [0, 1] [(hP, .inr (2, [.int (z_I pl), .ref aP])), (aP, z_ai cI 80 sg)] [.int (z_I (k - 1))] [] (c_X2_signAt l D cI cZ cO hP aP pl sg (k - 1) (by first | assumption | omega) (by first | assumption | omega) (by first | assumption | omega)) gX2_ordersAt_X2_signAt rfl zd_X2_signAt rfl (by decide) rfl rfl rfl (by decide) rfl rfl rfl (Nat.le_of_ble_eq_true rfl) (by decide) dX2_ordersAt_8 ?_
    have hx0 := z_sg_rng hsg (k - 1)
    refine z_bipush C 59 dX2_ordersAt_11 (by decide) ?_
    refine z_icmp_eq C 18 dX2_ordersAt_13 (by decide) (by omega) (by omega) (fun hc4 => ?_) (fun hc4 => ?_)
    · skip
      refine z_aload_n C 0 dX2_ordersAt_18 rfl ?_
      refine z_iload_n C 1 dX2_ordersAt_19 rfl ?_
      refine z_callVi C [0, 1] [(hP, .inr (2, [.int (z_I pl), .ref aP])), (aP, z_ai cI 80 sg)] [.int (z_I k)] [] (c_X2_signAt l D cI cZ cO hP aP pl sg k (by first | assumption | omega) (by first | assumption | omega) (by first | assumption | omega)) gX2_ordersAt_X2_signAt rfl zd_X2_signAt rfl (by decide) rfl rfl rfl (by decide) rfl rfl rfl (Nat.le_of_ble_eq_true rfl) (by decide) dX2_ordersAt_20 ?_
      have hx1 := z_sg_rng hsg k
      refine z_bipush C 99 dX2_ordersAt_23 (by decide) ?_
      refine z_icmp_ne C 48 dX2_ordersAt_25 (by decide) (by omega) (by omega) (fun hc5 => ?_) (fun hc5 => ?_)
      · skip
        refine z_iconst C 1 dX2_ordersAt_48 ?_
        exact z_iret C hQ rfl (by unfold z_oa; first | (rw [if_neg (by omega), if_pos (by omega)]) | (rw [if_neg (by omega), if_neg (by omega)])) dX2_ordersAt_49
      · skip
        refine z_aload_n C 0 dX2_ordersAt_28 rfl ?_
        refine z_iload_n C 1 dX2_ordersAt_29 rfl ?_
        refine z_iconst C 1 dX2_ordersAt_30 ?_
        refine z_iadd C dX2_ordersAt_31 ?_
        refine z_callVi C [0, 1] [(hP, .inr (2, [.int (z_I pl), .ref aP])), (aP, z_ai cI 80 sg)] [.int (z_I (k + 1))] [] (c_X2_isDigitAt l D cI cZ cO hP aP pl sg (k + 1) (by first | assumption | omega) (by first | assumption | omega) (by first | assumption | omega)) gX2_ordersAt_X2_isDigitAt rfl zd_X2_isDigitAt rfl (by decide) rfl rfl rfl (by decide) rfl rfl rfl (Nat.le_of_ble_eq_true rfl) (by decide) dX2_ordersAt_32 ?_
        refine z_if_eq C 48 dX2_ordersAt_35 (by decide) (by omega) (fun hc6 => ?_) (fun hc6 => ?_)
        · skip
          have hz := z_if0.mp hc6
          refine z_iconst C 1 dX2_ordersAt_48 ?_
          exact z_iret C hQ rfl (by unfold z_oa; first | (rw [if_neg (by omega), if_pos (by omega)]) | (rw [if_neg (by omega), if_neg (by omega)])) dX2_ordersAt_49
        · skip
          have hz := z_if1.mp hc6
          refine z_aload_n C 0 dX2_ordersAt_38 rfl ?_
          refine z_iload_n C 1 dX2_ordersAt_39 rfl ?_
          refine z_iconst C 1 dX2_ordersAt_40 ?_
          refine z_iadd C dX2_ordersAt_41 ?_
          refine z_callVi C [0, 1] [(hP, .inr (2, [.int (z_I pl), .ref aP])), (aP, z_ai cI 80 sg)] [.int (z_I (k + 1))] [] (c_X2_numberAt l D cI cZ cO hP aP pl sg (k + 1) (by first | assumption | omega) (by first | assumption | omega) (by first | assumption | omega)) gX2_ordersAt_X2_numberAt rfl zd_X2_numberAt rfl (by decide) rfl rfl rfl (by decide) rfl rfl rfl (Nat.le_of_ble_eq_true rfl) (by decide) dX2_ordersAt_42 ?_
          refine z_goto C 49 dX2_ordersAt_45 (by decide) ?_
          exact z_iret C hQ rfl (by unfold z_oa; first | (rw [if_neg (by omega), if_pos (by omega)]) | (rw [if_neg (by omega), if_neg (by omega)])) dX2_ordersAt_49
    · skip
      refine z_iconst C 0 dX2_ordersAt_16 ?_
      exact z_iret C hQ rfl (by unfold z_oa; rw [if_pos (by omega)]) dX2_ordersAt_17
theorem zl_X2_charactersIn_23 : Cond.constantLong RX2 23 (255) ∈ wsX2_charactersIn := by decide +kernel
theorem zd_X2_charactersIn : yX2_charactersIn.cls ≠ "java/lang/invoke/MethodHandle" ∧ yX2_charactersIn.cls ≠ "java/lang/invoke/VarHandle" ∧ (parseMethodDescriptor yX2_charactersIn.desc).map (fun d => d.parameters.length) = some 1 := by decide +kernel
set_option maxHeartbeats 4000000 in
set_option maxRecDepth 100000 in
theorem c_X2_charactersIn (l : Launch) (D : va_G) (cI cZ cO : ClassId) (u : Int) (hu : 0 ≤ u ∧ u < 18446744073709551616) : z_Mi l yX2_charactersIn wsX2_charactersIn 0 0 D (z_T cI cZ cO) [.long (z_L u)] ([]) ([]) (z_ch u 0 8) := by
  refine z_Mi_of (cc := cX2_charactersIn) (nL := 6) (ret := (some .int)) (by decide +kernel) rfl (Nat.le_of_ble_eq_true rfl) ?_
  intro p e s m args below meth c A Q C hQ
  change z_V p l e { frames := 0, cells := 0, slots := 0, locals := 0 } s m args below meth c D A 6 0 0 Q ([]) 0 [(0, .long (z_L u))] []
  refine z_lload_n C 0 dX2_charactersIn_0 rfl ?_
  refine z_lstore_n C [(2, .long (z_L u)), (0, .long (z_L u))] dX2_charactersIn_1 (by decide) rfl ?_
  refine z_iconst C 0 dX2_charactersIn_2 ?_
  refine z_istore C [(4, .int (z_I 0)), (2, .long (z_L u)), (0, .long (z_L u))] dX2_charactersIn_3 (by decide) rfl ?_
  have loop5 : ∀ (zn : Nat) (v : Int) (mm : Int), 0 ≤ v ∧ v < 18446744073709551616 → 0 ≤ mm ∧ mm ≤ 8 → z_ch u 0 8 = z_ch v mm (8 - mm).toNat → (8 - mm) < (zn : Int) → z_V p l e { frames := 0, cells := 0, slots := 0, locals := 0 } s m args below meth c D A 6 0 0 Q [] 5 [(4, .int (z_I mm)), (2, .long (z_L v)), (0, .long (z_L u))] [] := by
    intro zn
    induction zn with
    | zero => intro v mm hv hm0 ha hm5; exact absurd hm5 (by omega)
    | succ zn5 ih5 =>
      intro v mm hv hm0 ha hm5
      refine z_lload_n C 1 dX2_charactersIn_5 rfl ?_
      refine z_lconst C 0 dX2_charactersIn_6 rfl ?_
      refine z_lcmp C dX2_charactersIn_7 ?_
      refine z_if_eq C 54 dX2_charactersIn_8 (by decide) (z_rng _) (fun hc1 => ?_) (fun hc1 => ?_)
      · skip
        have hz := (z_cmp0 hv).mp hc1
        refine z_iload C 0 dX2_charactersIn_54 rfl ?_
        refine z_if_ne C 64 dX2_charactersIn_56 (by decide) (by omega) (fun hc2 => ?_) (fun hc2 => ?_)
        · skip
          refine z_iload C 0 dX2_charactersIn_64 rfl ?_
          exact z_iret C hQ rfl (by rw [ha, z_ch_0 (by omega)]; (repeat' split) <;> omega) dX2_charactersIn_66
        · skip
          refine z_bipush C (-2) dX2_charactersIn_59 (by decide) ?_
          refine z_goto C 66 dX2_charactersIn_61 (by decide) ?_
          exact z_iret C hQ rfl (by rw [ha, z_ch_0 (by omega)]; (repeat' split) <;> omega) dX2_charactersIn_66
      · skip
        have hz : ¬ v = 0 := fun q => hc1 ((z_cmp0 hv).mpr q)
        refine z_iload C 0 dX2_charactersIn_11 rfl ?_
        refine z_bipush C 8 dX2_charactersIn_13 (by decide) ?_
        refine z_icmp_ge C 54 dX2_charactersIn_15 (by decide) (by omega) (by omega) (fun hc3 => ?_) (fun hc3 => ?_)
        · skip
          refine z_iload C 0 dX2_charactersIn_54 rfl ?_
          refine z_if_ne C 64 dX2_charactersIn_56 (by decide) (by omega) (fun hc4 => ?_) (fun hc4 => ?_)
          · skip
            refine z_iload C 0 dX2_charactersIn_64 rfl ?_
            exact z_iret C hQ rfl (by rw [ha, z_ch_0 (by omega)]; (repeat' split) <;> omega) dX2_charactersIn_66
          · skip
            refine z_bipush C (-2) dX2_charactersIn_59 (by decide) ?_
            refine z_goto C 66 dX2_charactersIn_61 (by decide) ?_
            exact z_iret C hQ rfl (by rw [ha, z_ch_0 (by omega)]; (repeat' split) <;> omega) dX2_charactersIn_66
        · skip
          refine z_lload_n C 1 dX2_charactersIn_18 rfl ?_
          refine z_ldc2 C 255 zl_X2_charactersIn_23 rfl dX2_charactersIn_19 ?_
          refine z_land C (v % 256) dX2_charactersIn_22 (z_land255 hv) ?_
          refine z_l2i C dX2_charactersIn_23 ?_
          refine z_istore C [(5, .int (z_I (v % 256))), (4, .int (z_I mm)), (2, .long (z_L v)), (0, .long (z_L u))] dX2_charactersIn_24 (by decide) rfl ?_
          refine z_iload C 0 dX2_charactersIn_26 rfl ?_
          refine z_bipush C 33 dX2_charactersIn_28 (by decide) ?_
          refine z_icmp_lt C 40 dX2_charactersIn_30 (by decide) (by omega) (by omega) (fun hc5 => ?_) (fun hc5 => ?_)
          · skip
            refine z_bipush C (-2) dX2_charactersIn_40 (by decide) ?_
            exact z_iret C hQ rfl (by rw [ha, z_ch_b (m := (8 - (mm + 1)).toNat) (by omega) hz (by omega)]) dX2_charactersIn_42
          · skip
            refine z_iload C 0 dX2_charactersIn_33 rfl ?_
            refine z_bipush C 126 dX2_charactersIn_35 (by decide) ?_
            refine z_icmp_le C 43 dX2_charactersIn_37 (by decide) (by omega) (by omega) (fun hc6 => ?_) (fun hc6 => ?_)
            · skip
              refine z_lload_n C 2 dX2_charactersIn_43 rfl ?_
              refine z_bipush C 8 dX2_charactersIn_44 (by decide) ?_
              refine z_lushr C (v / 256) dX2_charactersIn_46 (z_lushr8 (k := 1) hv (by omega)) ?_
              refine z_lstore_n C [(2, .long (z_L (v / 256))), (5, .int (z_I (v % 256))), (4, .int (z_I mm)), (0, .long (z_L u))] dX2_charactersIn_47 (by decide) rfl ?_
              refine z_iinc C 2 [(4, .int (z_I (mm + 1))), (2, .long (z_L (v / 256))), (5, .int (z_I (v % 256))), (0, .long (z_L u))] dX2_charactersIn_48 rfl (by decide) rfl ?_
              refine z_goto C 5 dX2_charactersIn_51 (by decide) ?_
              refine z_lsub [(4, .int (z_I (mm + 1))), (2, .long (z_L (v / 256))), (0, .long (z_L u))] [0, 1, 3] rfl ?_
              exact ih5 (v / 256) (mm + 1) (by first | assumption | omega) (by first | assumption | omega) (by rw [ha, z_ch_s (m := (8 - (mm + 1)).toNat) (by omega) hz (by omega)]) (by omega)
            · skip
              refine z_bipush C (-2) dX2_charactersIn_40 (by decide) ?_
              exact z_iret C hQ rfl (by rw [ha, z_ch_b (m := (8 - (mm + 1)).toNat) (by omega) hz (by omega)]) dX2_charactersIn_42
  exact loop5 9 u 0 (by first | assumption | omega) (by first | assumption | omega) rfl (by omega)
theorem zi_X2_append_X2 : ∀ w ∈ u_ws RX2 TX2 2, w ∈ wsX2_append := by decide +kernel
theorem zl_X2_append_19 : Cond.fieldLink RX2 19 "RippleCounts$Pad" "length" "I" ∈ wsX2_append := by decide +kernel
theorem zl_X2_append_23 : Cond.constantLong RX2 23 (255) ∈ wsX2_append := by decide +kernel
theorem zl_X2_append_9 : Cond.fieldLink RX2 9 "RippleCounts$Pad" "signs" "[I" ∈ wsX2_append := by decide +kernel
theorem zd_X2_append : yX2_append.cls ≠ "java/lang/invoke/MethodHandle" ∧ yX2_append.cls ≠ "java/lang/invoke/VarHandle" ∧ (parseMethodDescriptor yX2_append.desc).map (fun d => d.parameters.length) = some 1 := by decide +kernel
set_option maxHeartbeats 4000000 in
set_option maxRecDepth 100000 in
theorem c_X2_append (l : Launch) (D : va_G) (cI cZ cO : ClassId) (hP aP : Nat) (pl : Int) (sg : Int → Int) (u : Int) (hpl : 0 ≤ pl ∧ pl ≤ 80) (hsg : ∀ i : Int, 0 ≤ i → i < pl → 0 ≤ sg i ∧ sg i < 256) (hu : 0 ≤ u ∧ u < 18446744073709551616) : z_Mi l yX2_append wsX2_append 1 25 D (z_T cI cZ cO) [.ref hP, .long (z_L u)] ([(hP, .inr (2, [.int (z_I pl), .ref aP])), (aP, z_ai cI 80 sg)]) ([(hP, .inr (2, [.int (z_I ((z_ap pl sg u).2.1)), .ref aP])), (aP, z_ai cI 80 ((z_ap pl sg u).2.2))]) ((z_ap pl sg u).1) := by
  refine z_Mi_of (cc := cX2_append) (nL := 5) (ret := (some .int)) (by decide +kernel) rfl (Nat.le_of_ble_eq_true rfl) ?_
  intro p e s m args below meth c A Q C hQ
  change z_V p l e { frames := 1, cells := 0, slots := 0, locals := 25 } s m args below meth c D A 5 0 0 Q ([(hP, .inr (2, [.int (z_I pl), .ref aP])), (aP, z_ai cI 80 sg)]) 0 [(0, .ref hP), (1, .long (z_L u))] []
  have hch := z_ch_rng 8 u 0 (by omega)
  refine z_lload_n C 1 dX2_append_0 rfl ?_
  refine z_callSi C [] [(hP, .inr (2, [.int (z_I pl), .ref aP])), (aP, z_ai cI 80 sg)] [.long (z_L u)] [] (c_X2_charactersIn l D cI cZ cO u (by first | assumption | omega)) gX2_append_X2_charactersIn rfl zd_X2_charactersIn rfl (by decide) rfl (by decide) rfl rfl rfl (Nat.le_of_ble_eq_true rfl) (by decide) dX2_append_1 ?_
  refine z_istore_n C [(3, .int (z_I (z_ch u 0 8))), (0, .ref hP), (1, .long (z_L u))] dX2_append_4 (by decide) rfl ?_
  refine z_iload_n C 0 dX2_append_5 rfl ?_
  refine z_if_ge C 11 dX2_append_6 (by decide) (by omega) (fun hc1 => ?_) (fun hc1 => ?_)
  · skip
    refine z_aload_n C 1 dX2_append_11 rfl ?_
    refine z_get C 0 0 zi_X2_append_X2 rfl rfl (by decide) zl_X2_append_19 rfl rfl dX2_append_12 ?_
    refine z_iload_n C 0 dX2_append_15 rfl ?_
    refine z_iadd C dX2_append_16 ?_
    refine z_bipush C 80 dX2_append_17 (by decide) ?_
    refine z_icmp_le C 25 dX2_append_19 (by decide) (by omega) (by omega) (fun hc2 => ?_) (fun hc2 => ?_)
    · skip
      refine z_iconst C 0 dX2_append_25 ?_
      refine z_istore C [(4, .int (z_I 0)), (3, .int (z_I (z_ch u 0 8))), (0, .ref hP), (1, .long (z_L u))] dX2_append_26 (by decide) rfl ?_
      have loop28 : ∀ (zn : Nat) (j : Int) (g : Int → Int), 0 ≤ j ∧ j ≤ z_ch u 0 8 → (∀ i : Int, g i = if pl + z_ch u 0 8 - j ≤ i ∧ i < pl + z_ch u 0 8 then u / z_p2 (8 * (pl + z_ch u 0 8 - 1 - i)) % 256 else sg i) → (z_ch u 0 8 - j) < (zn : Int) → z_V p l e { frames := 1, cells := 0, slots := 0, locals := 25 } s m args below meth c D A 5 0 0 Q [(hP, .inr (2, [.int (z_I pl), .ref aP])), (aP, z_ai cI 80 g)] 28 [(4, .int (z_I j)), (3, .int (z_I (z_ch u 0 8))), (0, .ref hP), (1, .long (z_L u))] [] := by
        intro zn
        induction zn with
        | zero => intro j g hj hg hm28; exact absurd hm28 (by omega)
        | succ zn28 ih28 =>
          intro j g hj hg hm28
          refine z_iload C 0 dX2_append_28 rfl ?_
          refine z_iload_n C 1 dX2_append_30 rfl ?_
          refine z_icmp_ge C 68 dX2_append_31 (by decide) (by omega) (by omega) (fun hc3 => ?_) (fun hc3 => ?_)
          · skip
            have hgf : g = z_apf pl (z_ch u 0 8) u sg := by
              funext i
              rw [hg i]
              unfold z_apf
              rw [show pl + z_ch u 0 8 - j = pl by omega]
            refine z_ws [(hP, .inr (2, [.int (z_I pl), .ref aP])), (aP, z_ai cI 80 (z_apf pl (z_ch u 0 8) u sg))] (by rw [hgf]) ?_
            refine z_aload_n C 2 dX2_append_68 rfl ?_
            refine z_dup C dX2_append_69 rfl ?_
            refine z_get C 0 0 zi_X2_append_X2 rfl rfl (by decide) zl_X2_append_19 rfl rfl dX2_append_70 ?_
            refine z_iload_n C 1 dX2_append_73 rfl ?_
            refine z_iadd C dX2_append_74 ?_
            refine z_put C 0 0 ([(hP, .inr (2, [.int (z_I (pl + (z_ch u 0 8))), .ref aP])), (aP, z_ai cI 80 (z_apf pl (z_ch u 0 8) u sg))]) zi_X2_append_X2 tyX2_ok nmX2 rfl rfl (by decide) zl_X2_append_19 rfl rfl rfl rfl (Nat.le_of_ble_eq_true rfl) rfl dX2_append_75 ?_
            refine z_aload_n C 2 dX2_append_78 rfl ?_
            refine z_get C 0 0 zi_X2_append_X2 rfl rfl (by decide) zl_X2_append_19 rfl rfl dX2_append_79 ?_
            exact z_iret C hQ (by unfold z_ap; rw [if_neg (by omega), if_neg (by omega)]) (by unfold z_ap; rw [if_neg (by omega), if_neg (by omega)]) dX2_append_82
          · skip
            refine z_aload_n C 2 dX2_append_34 rfl ?_
            refine z_get C 0 1 zi_X2_append_X2 rfl rfl (by decide) zl_X2_append_9 rfl rfl dX2_append_35 ?_
            refine z_aload_n C 2 dX2_append_38 rfl ?_
            refine z_get C 0 0 zi_X2_append_X2 rfl rfl (by decide) zl_X2_append_19 rfl rfl dX2_append_39 ?_
            refine z_iload_n C 1 dX2_append_42 rfl ?_
            refine z_iadd C dX2_append_43 ?_
            refine z_iconst C 1 dX2_append_44 ?_
            refine z_isub C dX2_append_45 ?_
            refine z_iload C 0 dX2_append_46 rfl ?_
            refine z_isub C dX2_append_48 ?_
            refine z_lload_n C 3 dX2_append_49 rfl ?_
            refine z_bipush C 8 dX2_append_50 (by decide) ?_
            refine z_iload C 0 dX2_append_52 rfl ?_
            refine z_imul C dX2_append_54 ?_
            refine z_lushr C (u / z_p2 (8 * j)) dX2_append_55 (z_lushr8 hu (by omega)) ?_
            refine z_ldc2 C 255 zl_X2_append_23 rfl dX2_append_56 ?_
            refine z_land C (u / z_p2 (8 * j) % 256) dX2_append_59 (z_land255 ⟨Int.ediv_nonneg hu.1 (Int.le_of_lt (z_p2_pos _)), Int.lt_of_le_of_lt (Int.ediv_le_self _ hu.1) hu.2⟩) ?_
            refine z_l2i C dX2_append_60 ?_
            refine z_iast C 1 0 ([(hP, .inr (2, [.int (z_I pl), .ref aP])), (aP, z_ai cI 80 (z_u g (((pl + (z_ch u 0 8)) - 1) - j) (u / z_p2 (8 * j) % 256)))]) rfl rfl (by decide) (by omega) rfl dX2_append_61 ?_
            refine z_iinc C 0 [(4, .int (z_I (j + 1))), (3, .int (z_I (z_ch u 0 8))), (0, .ref hP), (1, .long (z_L u))] dX2_append_62 rfl (by decide) rfl ?_
            refine z_goto C 28 dX2_append_65 (by decide) ?_
            exact ih28 (j + 1) (z_u g (((pl + (z_ch u 0 8)) - 1) - j) (u / z_p2 (8 * j) % 256)) (by first | assumption | omega) (fun i => by by_cases h3 : i = pl + z_ch u 0 8 - 1 - j; (· subst h3; rw [z_u_same, if_pos (by omega), show pl + z_ch u 0 8 - 1 - (pl + z_ch u 0 8 - 1 - j) = j by omega]); (· rw [z_u_ne h3, hg i]; by_cases h4 : pl + z_ch u 0 8 - j ≤ i ∧ i < pl + z_ch u 0 8; (· rw [if_pos h4, if_pos (by omega)]); (· rw [if_neg h4, if_neg (by omega)]))) (by omega)
      exact loop28 ((z_ch u 0 8).toNat + 1) 0 sg (by first | assumption | omega) (fun i => by rw [if_neg (by omega)]) (by omega)
    · skip
      refine z_bipush C (-4) dX2_append_22 (by decide) ?_
      exact z_iret C hQ (by unfold z_ap; rw [if_neg (by omega), if_pos (by omega)]) (by unfold z_ap; rw [if_neg (by omega), if_pos (by omega)]) dX2_append_24
  · skip
    refine z_iload_n C 0 dX2_append_9 rfl ?_
    exact z_iret C hQ (by unfold z_ap; rw [if_pos (by omega)]) (by unfold z_ap; rw [if_pos (by omega)]) dX2_append_10
theorem zi_X2_firstFault_X2 : ∀ w ∈ u_ws RX2 TX2 2, w ∈ wsX2_firstFault := by decide +kernel
theorem zl_X2_firstFault_19 : Cond.fieldLink RX2 19 "RippleCounts$Pad" "length" "I" ∈ wsX2_firstFault := by decide +kernel
theorem zl_X2_firstFault_9 : Cond.fieldLink RX2 9 "RippleCounts$Pad" "signs" "[I" ∈ wsX2_firstFault := by decide +kernel
theorem zd_X2_firstFault : yX2_firstFault.cls ≠ "java/lang/invoke/MethodHandle" ∧ yX2_firstFault.cls ≠ "java/lang/invoke/VarHandle" ∧ (parseMethodDescriptor yX2_firstFault.desc).map (fun d => d.parameters.length) = some 0 := by decide +kernel
set_option maxHeartbeats 4000000 in
set_option maxRecDepth 100000 in
theorem c_X2_firstFault (l : Launch) (D : va_G) (cI cZ cO : ClassId) (hP aP : Nat) (pl : Int) (sg : Int → Int) (hpl : 0 ≤ pl ∧ pl ≤ 80) (hsg : ∀ i : Int, 0 ≤ i → i < pl → 0 ≤ sg i ∧ sg i < 256) : z_Mi l yX2_firstFault wsX2_firstFault 3 61 D (z_T cI cZ cO) [.ref hP] ([(hP, .inr (2, [.int (z_I pl), .ref aP])), (aP, z_ai cI 80 sg)]) ([(hP, .inr (2, [.int (z_I pl), .ref aP])), (aP, z_ai cI 80 sg)]) (z_ff pl sg 0 0 pl.toNat) := by
  refine z_Mi_of (cc := cX2_firstFault) (nL := 3) (ret := (some .int)) (by decide +kernel) rfl (Nat.le_of_ble_eq_true rfl) ?_
  intro p e s m args below meth c A Q C hQ
  change z_V p l e { frames := 3, cells := 0, slots := 0, locals := 61 } s m args below meth c D A 3 0 0 Q ([(hP, .inr (2, [.int (z_I pl), .ref aP])), (aP, z_ai cI 80 sg)]) 0 [(0, .ref hP)] []
  refine z_iconst C 0 dX2_firstFault_0 ?_
  refine z_istore_n C [(1, .int (z_I 0)), (0, .ref hP)] dX2_firstFault_1 (by decide) rfl ?_
  refine z_iconst C 0 dX2_firstFault_2 ?_
  refine z_istore_n C [(2, .int (z_I 0)), (1, .int (z_I 0)), (0, .ref hP)] dX2_firstFault_3 (by decide) rfl ?_
  have loop4 : ∀ (zn : Nat) (j : Int) (q : Int), 0 ≤ j ∧ j ≤ pl → 0 ≤ q ∧ q ≤ 7 → z_ff pl sg 0 0 pl.toNat = z_ff pl sg j q (pl - j).toNat → (pl - j) < (zn : Int) → z_V p l e { frames := 3, cells := 0, slots := 0, locals := 61 } s m args below meth c D A 3 0 0 Q [(hP, .inr (2, [.int (z_I pl), .ref aP])), (aP, z_ai cI 80 sg)] 4 [(2, .int (z_I j)), (1, .int (z_I q)), (0, .ref hP)] [] := by
    intro zn
    induction zn with
    | zero => intro j q hj hq ha hm4; exact absurd hm4 (by omega)
    | succ zn4 ih4 =>
      intro j q hj hq ha hm4
      refine z_iload_n C 0 dX2_firstFault_4 rfl ?_
      refine z_aload_n C 2 dX2_firstFault_5 rfl ?_
      refine z_get C 0 0 zi_X2_firstFault_X2 rfl rfl (by decide) zl_X2_firstFault_19 rfl rfl dX2_firstFault_6 ?_
      refine z_icmp_ge C 37 dX2_firstFault_9 (by decide) (by omega) (by omega) (fun hc1 => ?_) (fun hc1 => ?_)
      · skip
        obtain rfl : j = pl := by omega
        rw [Int.sub_self] at ha
        refine z_iload_n C 1 dX2_firstFault_37 rfl ?_
        refine z_iconst C 1 dX2_firstFault_38 ?_
        refine z_icmp_eq C 52 dX2_firstFault_39 (by decide) (by omega) (by omega) (fun hc2 => ?_) (fun hc2 => ?_)
        · skip
          refine z_iconst C 1 dX2_firstFault_52 ?_
          refine z_goto C 57 dX2_firstFault_53 (by decide) ?_
          refine z_istore_n C [(2, .int (z_I 1)), (1, .int (z_I q)), (0, .ref hP)] dX2_firstFault_57 (by decide) rfl ?_
          refine z_iload_n C 0 dX2_firstFault_58 rfl ?_
          refine z_if_eq C 67 dX2_firstFault_59 (by decide) (by omega) (fun hc3 => ?_) (fun hc3 => ?_)
          · skip
            refine z_aload_n C 2 dX2_firstFault_67 rfl ?_
            refine z_get C 0 0 zi_X2_firstFault_X2 rfl rfl (by decide) zl_X2_firstFault_19 rfl rfl dX2_firstFault_68 ?_
            exact z_iret C hQ rfl (by rw [ha]; show _ = (if q = 1 ∨ q = 3 ∨ q = 4 then (-6 : Int) else _); first | (rw [if_pos (by omega)]; done) | (rw [if_neg (by omega)]; done)) dX2_firstFault_71
          · skip
            refine z_bipush C (-6) dX2_firstFault_62 (by decide) ?_
            refine z_goto C 71 dX2_firstFault_64 (by decide) ?_
            exact z_iret C hQ rfl (by rw [ha]; show _ = (if q = 1 ∨ q = 3 ∨ q = 4 then (-6 : Int) else _); first | (rw [if_pos (by omega)]; done) | (rw [if_neg (by omega)]; done)) dX2_firstFault_71
        · skip
          refine z_iload_n C 1 dX2_firstFault_42 rfl ?_
          refine z_iconst C 3 dX2_firstFault_43 ?_
          refine z_icmp_eq C 52 dX2_firstFault_44 (by decide) (by omega) (by omega) (fun hc4 => ?_) (fun hc4 => ?_)
          · skip
            refine z_iconst C 1 dX2_firstFault_52 ?_
            refine z_goto C 57 dX2_firstFault_53 (by decide) ?_
            refine z_istore_n C [(2, .int (z_I 1)), (1, .int (z_I q)), (0, .ref hP)] dX2_firstFault_57 (by decide) rfl ?_
            refine z_iload_n C 0 dX2_firstFault_58 rfl ?_
            refine z_if_eq C 67 dX2_firstFault_59 (by decide) (by omega) (fun hc5 => ?_) (fun hc5 => ?_)
            · skip
              refine z_aload_n C 2 dX2_firstFault_67 rfl ?_
              refine z_get C 0 0 zi_X2_firstFault_X2 rfl rfl (by decide) zl_X2_firstFault_19 rfl rfl dX2_firstFault_68 ?_
              exact z_iret C hQ rfl (by rw [ha]; show _ = (if q = 1 ∨ q = 3 ∨ q = 4 then (-6 : Int) else _); first | (rw [if_pos (by omega)]; done) | (rw [if_neg (by omega)]; done)) dX2_firstFault_71
            · skip
              refine z_bipush C (-6) dX2_firstFault_62 (by decide) ?_
              refine z_goto C 71 dX2_firstFault_64 (by decide) ?_
              exact z_iret C hQ rfl (by rw [ha]; show _ = (if q = 1 ∨ q = 3 ∨ q = 4 then (-6 : Int) else _); first | (rw [if_pos (by omega)]; done) | (rw [if_neg (by omega)]; done)) dX2_firstFault_71
          · skip
            refine z_iload_n C 1 dX2_firstFault_47 rfl ?_
            refine z_iconst C 4 dX2_firstFault_48 ?_
            refine z_icmp_ne C 56 dX2_firstFault_49 (by decide) (by omega) (by omega) (fun hc6 => ?_) (fun hc6 => ?_)
            · skip
              refine z_iconst C 0 dX2_firstFault_56 ?_
              refine z_istore_n C [(2, .int (z_I 0)), (1, .int (z_I q)), (0, .ref hP)] dX2_firstFault_57 (by decide) rfl ?_
              refine z_iload_n C 0 dX2_firstFault_58 rfl ?_
              refine z_if_eq C 67 dX2_firstFault_59 (by decide) (by omega) (fun hc7 => ?_) (fun hc7 => ?_)
              · skip
                refine z_aload_n C 2 dX2_firstFault_67 rfl ?_
                refine z_get C 0 0 zi_X2_firstFault_X2 rfl rfl (by decide) zl_X2_firstFault_19 rfl rfl dX2_firstFault_68 ?_
                exact z_iret C hQ rfl (by rw [ha]; show _ = (if q = 1 ∨ q = 3 ∨ q = 4 then (-6 : Int) else _); first | (rw [if_pos (by omega)]; done) | (rw [if_neg (by omega)]; done)) dX2_firstFault_71
              · skip
                refine z_bipush C (-6) dX2_firstFault_62 (by decide) ?_
                refine z_goto C 71 dX2_firstFault_64 (by decide) ?_
                exact z_iret C hQ rfl (by rw [ha]; show _ = (if q = 1 ∨ q = 3 ∨ q = 4 then (-6 : Int) else _); first | (rw [if_pos (by omega)]; done) | (rw [if_neg (by omega)]; done)) dX2_firstFault_71
            · skip
              refine z_iconst C 1 dX2_firstFault_52 ?_
              refine z_goto C 57 dX2_firstFault_53 (by decide) ?_
              refine z_istore_n C [(2, .int (z_I 1)), (1, .int (z_I q)), (0, .ref hP)] dX2_firstFault_57 (by decide) rfl ?_
              refine z_iload_n C 0 dX2_firstFault_58 rfl ?_
              refine z_if_eq C 67 dX2_firstFault_59 (by decide) (by omega) (fun hc8 => ?_) (fun hc8 => ?_)
              · skip
                refine z_aload_n C 2 dX2_firstFault_67 rfl ?_
                refine z_get C 0 0 zi_X2_firstFault_X2 rfl rfl (by decide) zl_X2_firstFault_19 rfl rfl dX2_firstFault_68 ?_
                exact z_iret C hQ rfl (by rw [ha]; show _ = (if q = 1 ∨ q = 3 ∨ q = 4 then (-6 : Int) else _); first | (rw [if_pos (by omega)]; done) | (rw [if_neg (by omega)]; done)) dX2_firstFault_71
              · skip
                refine z_bipush C (-6) dX2_firstFault_62 (by decide) ?_
                refine z_goto C 71 dX2_firstFault_64 (by decide) ?_
                exact z_iret C hQ rfl (by rw [ha]; show _ = (if q = 1 ∨ q = 3 ∨ q = 4 then (-6 : Int) else _); first | (rw [if_pos (by omega)]; done) | (rw [if_neg (by omega)]; done)) dX2_firstFault_71
      · skip
        have hx0 := hsg j hj.1 (by omega)
        have hq1 := z_pa_rng q (sg j)
        refine z_iload_n C 1 dX2_firstFault_12 rfl ?_
        refine z_aload_n C 2 dX2_firstFault_13 rfl ?_
        refine z_get C 0 1 zi_X2_firstFault_X2 rfl rfl (by decide) zl_X2_firstFault_9 rfl rfl dX2_firstFault_14 ?_
        refine z_iload_n C 0 dX2_firstFault_17 rfl ?_
        refine z_iald C 1 0 rfl rfl (by decide) (by omega) dX2_firstFault_18 ?_
        refine z_callSi C [] [(hP, .inr (2, [.int (z_I pl), .ref aP])), (aP, z_ai cI 80 sg)] [.int (z_I q), .int (z_I (sg j))] [] (c_X2_placeAfter l D cI cZ cO q (sg j) (by first | assumption | omega) (by first | assumption | omega)) gX2_firstFault_X2_placeAfter rfl zd_X2_placeAfter rfl (by decide) rfl (by decide) rfl rfl rfl (Nat.le_of_ble_eq_true rfl) (by decide) dX2_firstFault_19 ?_
        refine z_istore_n C [(1, .int (z_I (z_pa q (sg j)))), (2, .int (z_I j)), (0, .ref hP)] dX2_firstFault_22 (by decide) rfl ?_
        refine z_iload_n C 0 dX2_firstFault_23 rfl ?_
        refine z_bipush C 7 dX2_firstFault_24 (by decide) ?_
        refine z_icmp_ne C 31 dX2_firstFault_26 (by decide) (by omega) (by omega) (fun hc9 => ?_) (fun hc9 => ?_)
        · skip
          have hz : ¬ z_pa q (sg j) = 7 := hc9
          refine z_iinc C 1 [(2, .int (z_I (j + 1))), (1, .int (z_I (z_pa q (sg j)))), (0, .ref hP)] dX2_firstFault_31 rfl (by decide) rfl ?_
          refine z_goto C 4 dX2_firstFault_34 (by decide) ?_
          exact ih4 (j + 1) (z_pa q (sg j)) (by first | assumption | omega) (by first | assumption | omega) (by rw [ha, z_ff_s (m := (pl - (j + 1)).toNat) (by omega) hz]) (by omega)
        · skip
          have hz : z_pa q (sg j) = 7 := by omega
          refine z_iload_n C 1 dX2_firstFault_29 rfl ?_
          exact z_iret C hQ rfl (by rw [ha, z_ff_b (m := (pl - (j + 1)).toNat) (by omega) hz]) dX2_firstFault_30
  exact loop4 (pl.toNat + 1) 0 0 (by first | assumption | omega) (by first | assumption | omega) (by rw [Int.sub_zero]) (by omega)
