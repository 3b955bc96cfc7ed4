theorem zi_X7_sign_X7 : ∀ w ∈ u_ws RX7 TX7 7, w ∈ wsX7_sign := by decide +kernel
theorem zl_X7_sign_109 : Cond.fieldLink RX7 109 "RippleCountsModel" "length" "I" ∈ wsX7_sign := by decide +kernel
theorem zl_X7_sign_23 : Cond.fieldLink RX7 23 "RippleCountsModel" "pad" "[I" ∈ wsX7_sign := by decide +kernel
theorem zd_X7_sign : yX7_sign.cls ≠ "java/lang/invoke/MethodHandle" ∧ yX7_sign.cls ≠ "java/lang/invoke/VarHandle" ∧ (parseMethodDescriptor yX7_sign.desc).map (fun d => d.parameters.length) = some 1 := by decide +kernel
set_option maxHeartbeats 4000000 in
set_option maxRecDepth 100000 in
theorem c_X7_sign (l : Launch) (D : va_G) (cI cZ cO : ClassId) (hM aS aPa aSl aSv aPd : Nat) (kn ln : Int) (sg pd : Int → Int) (k : Int) (hln : 0 ≤ ln ∧ ln ≤ 80) (hsg : ∀ i : Int, 0 ≤ i → i < ln → 0 ≤ sg i ∧ sg i < 256) (hpr : z_pr ln sg pd) (hk : 0 ≤ k ∧ k < 1000) : z_Mi l yX7_sign wsX7_sign 0 0 D (z_T cI cZ cO) [.ref hM, .int (z_I k)] ([(hM, .inr (7, [.ref aS, .ref aPa, .int (z_I kn), .ref aSl, .ref aSv, .ref aPd, .int (z_I ln)])), (aPd, z_ai cI 80 pd)]) ([(hM, .inr (7, [.ref aS, .ref aPa, .int (z_I kn), .ref aSl, .ref aSv, .ref aPd, .int (z_I ln)])), (aPd, z_ai cI 80 pd)]) (z_mg ln sg k) := by
  refine z_Mi_of (cc := cX7_sign) (nL := 2) (ret := (some .int)) (by decide +kernel) rfl (Nat.le_of_ble_eq_true rfl) ?_
  intro p e s m args below meth c A Q C hQ
  change z_V p l e { frames := 0, cells := 0, slots := 0, locals := 0 } s m args below meth c D A 2 0 0 Q ([(hM, .inr (7, [.ref aS, .ref aPa, .int (z_I kn), .ref aSl, .ref aSv, .ref aPd, .int (z_I ln)])), (aPd, z_ai cI 80 pd)]) 0 [(0, .ref hM), (1, .int (z_I k))] []
  refine z_iload_n C 1 dX7_sign_0 rfl ?_
  refine z_aload_n C 0 dX7_sign_1 rfl ?_
  refine z_get C 0 6 zi_X7_sign_X7 rfl rfl (by decide) zl_X7_sign_109 rfl rfl dX7_sign_2 ?_
  refine z_icmp_ge C 17 dX7_sign_5 (by decide) (by omega) (by omega) (fun hc1 => ?_) (fun hc1 => ?_)
  · skip
    refine z_iconst C (-1) dX7_sign_17 ?_
    exact z_iret C hQ rfl (by unfold z_mg; first | (rw [if_pos (by omega)]; exact hpr k (by omega) (by omega)) | (rw [if_neg (by omega)])) dX7_sign_18
  · skip
    refine z_aload_n C 0 dX7_sign_8 rfl ?_
    refine z_get C 0 5 zi_X7_sign_X7 rfl rfl (by decide) zl_X7_sign_23 rfl rfl dX7_sign_9 ?_
    refine z_iload_n C 1 dX7_sign_12 rfl ?_
    refine z_iald C 1 0 rfl rfl (by decide) (by omega) dX7_sign_13 ?_
    refine z_goto C 18 dX7_sign_14 (by decide) ?_
    exact z_iret C hQ rfl (by unfold z_mg; first | (rw [if_pos (by omega)]; exact hpr k (by omega) (by omega)) | (rw [if_neg (by omega)])) dX7_sign_18
theorem zd_X7_digit : yX7_digit.cls ≠ "java/lang/invoke/MethodHandle" ∧ yX7_digit.cls ≠ "java/lang/invoke/VarHandle" ∧ (parseMethodDescriptor yX7_digit.desc).map (fun d => d.parameters.length) = some 1 := by decide +kernel
set_option maxHeartbeats 4000000 in
set_option maxRecDepth 100000 in
theorem c_X7_digit (l : Launch) (D : va_G) (cI cZ cO : ClassId) (hM aS aPa aSl aSv aPd : Nat) (kn ln : Int) (sg pd : Int → Int) (k : Int) (hln : 0 ≤ ln ∧ ln ≤ 80) (hsg : ∀ i : Int, 0 ≤ i → i < ln → 0 ≤ sg i ∧ sg i < 256) (hpr : z_pr ln sg pd) (hk : 0 ≤ k ∧ k < 1000) : z_Mi l yX7_digit wsX7_digit 1 22 D (z_T cI cZ cO) [.ref hM, .int (z_I k)] ([(hM, .inr (7, [.ref aS, .ref aPa, .int (z_I kn), .ref aSl, .ref aSv, .ref aPd, .int (z_I ln)])), (aPd, z_ai cI 80 pd)]) ([(hM, .inr (7, [.ref aS, .ref aPa, .int (z_I kn), .ref aSl, .ref aSv, .ref aPd, .int (z_I ln)])), (aPd, z_ai cI 80 pd)]) (z_dg ln sg k) := by
  refine z_Mi_of (cc := cX7_digit) (nL := 2) (ret := (some .int)) (by decide +kernel) rfl (Nat.le_of_ble_eq_true rfl) ?_
  intro p e s m args below meth c A Q C hQ
  change z_V p l e { frames := 1, cells := 0, slots := 0, locals := 22 } s m args below meth c D A 2 0 0 Q ([(hM, .inr (7, [.ref aS, .ref aPa, .int (z_I kn), .ref aSl, .ref aSv, .ref aPd, .int (z_I ln)])), (aPd, z_ai cI 80 pd)]) 0 [(0, .ref hM), (1, .int (z_I k))] []
  have hmg := z_mg_rng hsg hk.1
  refine z_aload_n C 0 dX7_digit_0 rfl ?_
  refine z_iload_n C 1 dX7_digit_1 rfl ?_
  refine z_callVi C [0, 1] [(hM, .inr (7, [.ref aS, .ref aPa, .int (z_I kn), .ref aSl, .ref aSv, .ref aPd, .int (z_I ln)])), (aPd, z_ai cI 80 pd)] [.int (z_I k)] [] (c_X7_sign l D cI cZ cO hM aS aPa aSl aSv aPd kn ln sg pd k (by first | assumption | omega) (by first | assumption | omega) (by first | assumption | omega) (by first | assumption | omega)) gX7_digit_X7_sign rfl zd_X7_sign rfl (by decide) rfl rfl rfl (by decide) rfl rfl rfl (Nat.le_of_ble_eq_true rfl) (by decide) dX7_digit_2 ?_
  refine z_bipush C 48 dX7_digit_5 (by decide) ?_
  refine z_bipush C 57 dX7_digit_7 (by decide) ?_
  refine z_callSi C [] [(hM, .inr (7, [.ref aS, .ref aPa, .int (z_I kn), .ref aSl, .ref aSv, .ref aPd, .int (z_I ln)])), (aPd, z_ai cI 80 pd)] [.int (z_I (z_mg ln sg k)), .int (z_I 48), .int (z_I 57)] [] (c_X7_in l D cI cZ cO (z_mg ln sg k) 48 57 (by first | assumption | omega) (by first | assumption | omega) (by first | assumption | omega)) gX7_digit_X7_in rfl zd_X7_in rfl (by decide) rfl (by decide) rfl rfl rfl (Nat.le_of_ble_eq_true rfl) (by decide) dX7_digit_9 ?_
  refine z_if_eq C 26 dX7_digit_12 (by decide) (by omega) (fun hc1 => ?_) (fun hc1 => ?_)
  · skip
    have hz := z_if0.mp hc1
    refine z_iconst C (-1) dX7_digit_26 ?_
    exact z_iret C hQ rfl (by unfold z_dg; first | (rw [if_pos (by omega)]; done) | (rw [if_neg (by omega)]; done)) dX7_digit_27
  · skip
    have hz := z_if1.mp (by omega)
    refine z_aload_n C 0 dX7_digit_15 rfl ?_
    refine z_iload_n C 1 dX7_digit_16 rfl ?_
    refine z_callVi C [0, 1] [(hM, .inr (7, [.ref aS, .ref aPa, .int (z_I kn), .ref aSl, .ref aSv, .ref aPd, .int (z_I ln)])), (aPd, z_ai cI 80 pd)] [.int (z_I k)] [] (c_X7_sign l D cI cZ cO hM aS aPa aSl aSv aPd kn ln sg pd k (by first | assumption | omega) (by first | assumption | omega) (by first | assumption | omega) (by first | assumption | omega)) gX7_digit_X7_sign rfl zd_X7_sign rfl (by decide) rfl rfl rfl (by decide) rfl rfl rfl (Nat.le_of_ble_eq_true rfl) (by decide) dX7_digit_17 ?_
    refine z_bipush C 48 dX7_digit_20 (by decide) ?_
    refine z_isub C dX7_digit_22 ?_
    refine z_goto C 27 dX7_digit_23 (by decide) ?_
    exact z_iret C hQ rfl (by unfold z_dg; first | (rw [if_pos (by omega)]; done) | (rw [if_neg (by omega)]; done)) dX7_digit_27
theorem zd_X7_numberEnd : yX7_numberEnd.cls ≠ "java/lang/invoke/MethodHandle" ∧ yX7_numberEnd.cls ≠ "java/lang/invoke/VarHandle" ∧ (parseMethodDescriptor yX7_numberEnd.desc).map (fun d => d.parameters.length) = some 1 := by decide +kernel
set_option maxHeartbeats 4000000 in
set_option maxRecDepth 100000 in
theorem c_X7_numberEnd (l : Launch) (D : va_G) (cI cZ cO : ClassId) (hM aS aPa aSl aSv aPd : Nat) (kn ln : Int) (sg pd : Int → Int) (k : Int) (hln : 0 ≤ ln ∧ ln ≤ 80) (hsg : ∀ i : Int, 0 ≤ i → i < ln → 0 ≤ sg i ∧ sg i < 256) (hpr : z_pr ln sg pd) (hk : 0 ≤ k ∧ k < 900) : z_Mi l yX7_numberEnd wsX7_numberEnd 2 43 D (z_T cI cZ cO) [.ref hM, .int (z_I k)] ([(hM, .inr (7, [.ref aS, .ref aPa, .int (z_I kn), .ref aSl, .ref aSv, .ref aPd, .int (z_I ln)])), (aPd, z_ai cI 80 pd)]) ([(hM, .inr (7, [.ref aS, .ref aPa, .int (z_I kn), .ref aSl, .ref aSv, .ref aPd, .int (z_I ln)])), (aPd, z_ai cI 80 pd)]) (z_ne ln sg k) := by
  refine z_Mi_of (cc := cX7_numberEnd) (nL := 2) (ret := (some .int)) (by decide +kernel) rfl (Nat.le_of_ble_eq_true rfl) ?_
  intro p e s m args below meth c A Q C hQ
  change z_V p l e { frames := 2, cells := 0, slots := 0, locals := 43 } s m args below meth c D A 2 0 0 Q ([(hM, .inr (7, [.ref aS, .ref aPa, .int (z_I kn), .ref aSl, .ref aSv, .ref aPd, .int (z_I ln)])), (aPd, z_ai cI 80 pd)]) 0 [(0, .ref hM), (1, .int (z_I k))] []
  have hd0 := z_dg_rng ln sg (k)
  have hd1 := z_dg_rng ln sg (k + 1)
  refine z_aload_n C 0 dX7_numberEnd_0 rfl ?_
  refine z_iload_n C 1 dX7_numberEnd_1 rfl ?_
  refine z_callVi C [0, 1] [(hM, .inr (7, [.ref aS, .ref aPa, .int (z_I kn), .ref aSl, .ref aSv, .ref aPd, .int (z_I ln)])), (aPd, z_ai cI 80 pd)] [.int (z_I k)] [] (c_X7_digit l D cI cZ cO hM aS aPa aSl aSv aPd kn ln sg pd k (by first | assumption | omega) (by first | assumption | omega) (by first | assumption | omega) (by first | assumption | omega)) gX7_numberEnd_X7_digit rfl zd_X7_digit rfl (by decide) rfl rfl rfl (by decide) rfl rfl rfl (Nat.le_of_ble_eq_true rfl) (by decide) dX7_numberEnd_2 ?_
  refine z_if_ge C 12 dX7_numberEnd_5 (by decide) (by omega) (fun hc1 => ?_) (fun hc1 => ?_)
  · skip
    refine z_aload_n C 0 dX7_numberEnd_12 rfl ?_
    refine z_iload_n C 1 dX7_numberEnd_13 rfl ?_
    refine z_callVi C [0, 1] [(hM, .inr (7, [.ref aS, .ref aPa, .int (z_I kn), .ref aSl, .ref aSv, .ref aPd, .int (z_I ln)])), (aPd, z_ai cI 80 pd)] [.int (z_I k)] [] (c_X7_digit l D cI cZ cO hM aS aPa aSl aSv aPd kn ln sg pd k (by first | assumption | omega) (by first | assumption | omega) (by first | assumption | omega) (by first | assumption | omega)) gX7_numberEnd_X7_digit rfl zd_X7_digit rfl (by decide) rfl rfl rfl (by decide) rfl rfl rfl (Nat.le_of_ble_eq_true rfl) (by decide) dX7_numberEnd_14 ?_
    refine z_if_le C 36 dX7_numberEnd_17 (by decide) (by omega) (fun hc2 => ?_) (fun hc2 => ?_)
    · skip
      refine z_iload_n C 1 dX7_numberEnd_36 rfl ?_
      refine z_iconst C 1 dX7_numberEnd_37 ?_
      refine z_iadd C dX7_numberEnd_38 ?_
      exact z_iret C hQ rfl (by unfold z_ne; (repeat' split) <;> first | rfl | (exfalso; omega)) dX7_numberEnd_39
    · skip
      refine z_aload_n C 0 dX7_numberEnd_20 rfl ?_
      refine z_iload_n C 1 dX7_numberEnd_21 rfl ?_
      refine z_iconst C 1 dX7_numberEnd_22 ?_
      refine z_iadd C dX7_numberEnd_23 ?_
      refine z_callVi C [0, 1] [(hM, .inr (7, [.ref aS, .ref aPa, .int (z_I kn), .ref aSl, .ref aSv, .ref aPd, .int (z_I ln)])), (aPd, z_ai cI 80 pd)] [.int (z_I (k + 1))] [] (c_X7_digit l D cI cZ cO hM aS aPa aSl aSv aPd kn ln sg pd (k + 1) (by first | assumption | omega) (by first | assumption | omega) (by first | assumption | omega) (by first | assumption | omega)) gX7_numberEnd_X7_digit rfl zd_X7_digit rfl (by decide) rfl rfl rfl (by decide) rfl rfl rfl (Nat.le_of_ble_eq_true rfl) (by decide) dX7_numberEnd_24 ?_
      refine z_if_lt C 36 dX7_numberEnd_27 (by decide) (by omega) (fun hc3 => ?_) (fun hc3 => ?_)
      · skip
        refine z_iload_n C 1 dX7_numberEnd_36 rfl ?_
        refine z_iconst C 1 dX7_numberEnd_37 ?_
        refine z_iadd C dX7_numberEnd_38 ?_
        exact z_iret C hQ rfl (by unfold z_ne; (repeat' split) <;> first | rfl | (exfalso; omega)) dX7_numberEnd_39
      · skip
        refine z_iload_n C 1 dX7_numberEnd_30 rfl ?_
        refine z_iconst C 2 dX7_numberEnd_31 ?_
        refine z_iadd C dX7_numberEnd_32 ?_
        refine z_goto C 39 dX7_numberEnd_33 (by decide) ?_
        exact z_iret C hQ rfl (by unfold z_ne; (repeat' split) <;> first | rfl | (exfalso; omega)) dX7_numberEnd_39
  · skip
    refine z_iconst C (-1) dX7_numberEnd_8 ?_
    refine z_iload_n C 1 dX7_numberEnd_9 rfl ?_
    refine z_isub C dX7_numberEnd_10 ?_
    exact z_iret C hQ rfl (by unfold z_ne; (repeat' split) <;> first | rfl | (exfalso; omega)) dX7_numberEnd_11
theorem zd_X7_numberAt : yX7_numberAt.cls ≠ "java/lang/invoke/MethodHandle" ∧ yX7_numberAt.cls ≠ "java/lang/invoke/VarHandle" ∧ (parseMethodDescriptor yX7_numberAt.desc).map (fun d => d.parameters.length) = some 1 := by decide +kernel
set_option maxHeartbeats 4000000 in
set_option maxRecDepth 100000 in
theorem c_X7_numberAt (l : Launch) (D : va_G) (cI cZ cO : ClassId) (hM aS aPa aSl aSv aPd : Nat) (kn ln : Int) (sg pd : Int → Int) (k : Int) (hln : 0 ≤ ln ∧ ln ≤ 80) (hsg : ∀ i : Int, 0 ≤ i → i < ln → 0 ≤ sg i ∧ sg i < 256) (hpr : z_pr ln sg pd) (hk : 0 ≤ k ∧ k < 850) : z_Mi l yX7_numberAt wsX7_numberAt 3 64 D (z_T cI cZ cO) [.ref hM, .int (z_I k)] ([(hM, .inr (7, [.ref aS, .ref aPa, .int (z_I kn), .ref aSl, .ref aSv, .ref aPd, .int (z_I ln)])), (aPd, z_ai cI 80 pd)]) ([(hM, .inr (7, [.ref aS, .ref aPa, .int (z_I kn), .ref aSl, .ref aSv, .ref aPd, .int (z_I ln)])), (aPd, z_ai cI 80 pd)]) (z_mn ln sg k) := by
  refine z_Mi_of (cc := cX7_numberAt) (nL := 2) (ret := (some .int)) (by decide +kernel) rfl (Nat.le_of_ble_eq_true rfl) ?_
  intro p e s m args below meth c A Q C hQ
  change z_V p l e { frames := 3, cells := 0, slots := 0, locals := 64 } s m args below meth c D A 2 0 0 Q ([(hM, .inr (7, [.ref aS, .ref aPa, .int (z_I kn), .ref aSl, .ref aSv, .ref aPd, .int (z_I ln)])), (aPd, z_ai cI 80 pd)]) 0 [(0, .ref hM), (1, .int (z_I k))] []
  have hd0 := z_dg_rng ln sg (k)
  have hd1 := z_dg_rng ln sg (k + 1)
  have hne := z_ne_rng ln sg k
  refine z_aload_n C 0 dX7_numberAt_0 rfl ?_
  refine z_iload_n C 1 dX7_numberAt_1 rfl ?_
  refine z_callVi C [0, 1] [(hM, .inr (7, [.ref aS, .ref aPa, .int (z_I kn), .ref aSl, .ref aSv, .ref aPd, .int (z_I ln)])), (aPd, z_ai cI 80 pd)] [.int (z_I k)] [] (c_X7_numberEnd l D cI cZ cO hM aS aPa aSl aSv aPd kn ln sg pd k (by first | assumption | omega) (by first | assumption | omega) (by first | assumption | omega) (by first | assumption | omega)) gX7_numberAt_X7_numberEnd rfl zd_X7_numberEnd rfl (by decide) rfl rfl rfl (by decide) rfl rfl rfl (Nat.le_of_ble_eq_true rfl) (by decide) dX7_numberAt_2 ?_
  refine z_iload_n C 1 dX7_numberAt_5 rfl ?_
  refine z_iconst C 1 dX7_numberAt_6 ?_
  refine z_iadd C dX7_numberAt_7 ?_
  refine z_icmp_ne C 19 dX7_numberAt_8 (by decide) (by omega) (by omega) (fun hc1 => ?_) (fun hc1 => ?_)
  · skip
    refine z_bipush C 10 dX7_numberAt_19 (by decide) ?_
    refine z_aload_n C 0 dX7_numberAt_21 rfl ?_
    refine z_iload_n C 1 dX7_numberAt_22 rfl ?_
    refine z_callVi C [0, 1] [(hM, .inr (7, [.ref aS, .ref aPa, .int (z_I kn), .ref aSl, .ref aSv, .ref aPd, .int (z_I ln)])), (aPd, z_ai cI 80 pd)] [.int (z_I k)] [.int (z_I 10)] (c_X7_digit l D cI cZ cO hM aS aPa aSl aSv aPd kn ln sg pd k (by first | assumption | omega) (by first | assumption | omega) (by first | assumption | omega) (by first | assumption | omega)) gX7_numberAt_X7_digit rfl zd_X7_digit rfl (by decide) rfl rfl rfl (by decide) rfl rfl rfl (Nat.le_of_ble_eq_true rfl) (by decide) dX7_numberAt_23 ?_
    refine z_imul C dX7_numberAt_26 ?_
    refine z_aload_n C 0 dX7_numberAt_27 rfl ?_
    refine z_iload_n C 1 dX7_numberAt_28 rfl ?_
    refine z_iconst C 1 dX7_numberAt_29 ?_
    refine z_iadd C dX7_numberAt_30 ?_
    refine z_callVi C [0, 1] [(hM, .inr (7, [.ref aS, .ref aPa, .int (z_I kn), .ref aSl, .ref aSv, .ref aPd, .int (z_I ln)])), (aPd, z_ai cI 80 pd)] [.int (z_I (k + 1))] [.int (z_I (10 * (z_dg ln sg k)))] (c_X7_digit l D cI cZ cO hM aS aPa aSl aSv aPd kn ln sg pd (k + 1) (by first | assumption | omega) (by first | assumption | omega) (by first | assumption | omega) (by first | assumption | omega)) gX7_numberAt_X7_digit rfl zd_X7_digit rfl (by decide) rfl rfl rfl (by decide) rfl rfl rfl (Nat.le_of_ble_eq_true rfl) (by decide) dX7_numberAt_31 ?_
    refine z_iadd C dX7_numberAt_34 ?_
    exact z_iret C hQ rfl (by unfold z_mn; first | (rw [if_pos (by omega)]; done) | (rw [if_neg (by omega)]; done)) dX7_numberAt_35
  · skip
    refine z_aload_n C 0 dX7_numberAt_11 rfl ?_
    refine z_iload_n C 1 dX7_numberAt_12 rfl ?_
    refine z_callVi C [0, 1] [(hM, .inr (7, [.ref aS, .ref aPa, .int (z_I kn), .ref aSl, .ref aSv, .ref aPd, .int (z_I ln)])), (aPd, z_ai cI 80 pd)] [.int (z_I k)] [] (c_X7_digit l D cI cZ cO hM aS aPa aSl aSv aPd kn ln sg pd k (by first | assumption | omega) (by first | assumption | omega) (by first | assumption | omega) (by first | assumption | omega)) gX7_numberAt_X7_digit rfl zd_X7_digit rfl (by decide) rfl rfl rfl (by decide) rfl rfl rfl (Nat.le_of_ble_eq_true rfl) (by decide) dX7_numberAt_13 ?_
    refine z_goto C 35 dX7_numberAt_16 (by decide) ?_
    exact z_iret C hQ rfl (by unfold z_mn; first | (rw [if_pos (by omega)]; done) | (rw [if_neg (by omega)]; done)) dX7_numberAt_35
theorem zd_X7_orderEnd : yX7_orderEnd.cls ≠ "java/lang/invoke/MethodHandle" ∧ yX7_orderEnd.cls ≠ "java/lang/invoke/VarHandle" ∧ (parseMethodDescriptor yX7_orderEnd.desc).map (fun d => d.parameters.length) = some 1 := by decide +kernel
set_option maxHeartbeats 4000000 in
set_option maxRecDepth 100000 in
theorem c_X7_orderEnd (l : Launch) (D : va_G) (cI cZ cO : ClassId) (hM aS aPa aSl aSv aPd : Nat) (kn ln : Int) (sg pd : Int → Int) (k : Int) (hln : 0 ≤ ln ∧ ln ≤ 80) (hsg : ∀ i : Int, 0 ≤ i → i < ln → 0 ≤ sg i ∧ sg i < 256) (hpr : z_pr ln sg pd) (hk : 0 ≤ k ∧ k < 800) : z_Mi l yX7_orderEnd wsX7_orderEnd 3 64 D (z_T cI cZ cO) [.ref hM, .int (z_I k)] ([(hM, .inr (7, [.ref aS, .ref aPa, .int (z_I kn), .ref aSl, .ref aSv, .ref aPd, .int (z_I ln)])), (aPd, z_ai cI 80 pd)]) ([(hM, .inr (7, [.ref aS, .ref aPa, .int (z_I kn), .ref aSl, .ref aSv, .ref aPd, .int (z_I ln)])), (aPd, z_ai cI 80 pd)]) (z_oe ln sg k) := by
  refine z_Mi_of (cc := cX7_orderEnd) (nL := 2) (ret := (some .int)) (by decide +kernel) rfl (Nat.le_of_ble_eq_true rfl) ?_
  intro p e s m args below meth c A Q C hQ
  change z_V p l e { frames := 3, cells := 0, slots := 0, locals := 64 } s m args below meth c D A 2 0 0 Q ([(hM, .inr (7, [.ref aS, .ref aPa, .int (z_I kn), .ref aSl, .ref aSv, .ref aPd, .int (z_I ln)])), (aPd, z_ai cI 80 pd)]) 0 [(0, .ref hM), (1, .int (z_I k))] []
  have hmg := z_mg_rng hsg hk.1
  have hd0 := z_dg_rng ln sg (k + 1)
  have hmg2 := z_mg_rng hsg (show 0 ≤ k + 2 by omega)
  refine z_aload_n C 0 dX7_orderEnd_0 rfl ?_
  refine z_iload_n C 1 dX7_orderEnd_1 rfl ?_
  refine z_callVi C [0, 1] [(hM, .inr (7, [.ref aS, .ref aPa, .int (z_I kn), .ref aSl, .ref aSv, .ref aPd, .int (z_I ln)])), (aPd, z_ai cI 80 pd)] [.int (z_I k)] [] (c_X7_sign l D cI cZ cO hM aS aPa aSl aSv aPd kn ln sg pd k (by first | assumption | omega) (by first | assumption | omega) (by first | assumption | omega) (by first | assumption | omega)) gX7_orderEnd_X7_sign rfl zd_X7_sign rfl (by decide) rfl rfl rfl (by decide) rfl rfl rfl (Nat.le_of_ble_eq_true rfl) (by decide) dX7_orderEnd_2 ?_
  by_cases hc1 : (z_mg ln sg k) = 99
  · skip
    refine z_look C 56 dX7_orderEnd_5 (by decide +kernel) (by omega) (by rw [hc1]) (by decide) ?_
    refine z_aload_n C 0 dX7_orderEnd_56 rfl ?_
    refine z_iload_n C 1 dX7_orderEnd_57 rfl ?_
    refine z_iconst C 1 dX7_orderEnd_58 ?_
    refine z_iadd C dX7_orderEnd_59 ?_
    refine z_callVi C [0, 1] [(hM, .inr (7, [.ref aS, .ref aPa, .int (z_I kn), .ref aSl, .ref aSv, .ref aPd, .int (z_I ln)])), (aPd, z_ai cI 80 pd)] [.int (z_I (k + 1))] [] (c_X7_digit l D cI cZ cO hM aS aPa aSl aSv aPd kn ln sg pd (k + 1) (by first | assumption | omega) (by first | assumption | omega) (by first | assumption | omega) (by first | assumption | omega)) gX7_orderEnd_X7_digit rfl zd_X7_digit rfl (by decide) rfl rfl rfl (by decide) rfl rfl rfl (Nat.le_of_ble_eq_true rfl) (by decide) dX7_orderEnd_60 ?_
    refine z_if_ge C 72 dX7_orderEnd_63 (by decide) (by omega) (fun hc2 => ?_) (fun hc2 => ?_)
    · skip
      refine z_aload_n C 0 dX7_orderEnd_72 rfl ?_
      refine z_iload_n C 1 dX7_orderEnd_73 rfl ?_
      refine z_iconst C 1 dX7_orderEnd_74 ?_
      refine z_iadd C dX7_orderEnd_75 ?_
      refine z_callVi C [0, 1] [(hM, .inr (7, [.ref aS, .ref aPa, .int (z_I kn), .ref aSl, .ref aSv, .ref aPd, .int (z_I ln)])), (aPd, z_ai cI 80 pd)] [.int (z_I (k + 1))] [] (c_X7_numberEnd l D cI cZ cO hM aS aPa aSl aSv aPd kn ln sg pd (k + 1) (by first | assumption | omega) (by first | assumption | omega) (by first | assumption | omega) (by first | assumption | omega)) gX7_orderEnd_X7_numberEnd rfl zd_X7_numberEnd rfl (by decide) rfl rfl rfl (by decide) rfl rfl rfl (Nat.le_of_ble_eq_true rfl) (by decide) dX7_orderEnd_76 ?_
      exact z_iret C hQ rfl (by unfold z_oe; (repeat' split) <;> first | rfl | (exfalso; omega)) dX7_orderEnd_79
    · skip
      refine z_iload_n C 1 dX7_orderEnd_66 rfl ?_
      refine z_iconst C 1 dX7_orderEnd_67 ?_
      refine z_iadd C dX7_orderEnd_68 ?_
      refine z_goto C 79 dX7_orderEnd_69 (by decide) ?_
      exact z_iret C hQ rfl (by unfold z_oe; (repeat' split) <;> first | rfl | (exfalso; omega)) dX7_orderEnd_79
  by_cases hc3 : (z_mg ln sg k) = 100
  · skip
    refine z_look C 88 dX7_orderEnd_5 (by decide +kernel) (by omega) (by rw [hc3]) (by decide) ?_
    refine z_aload_n C 0 dX7_orderEnd_88 rfl ?_
    refine z_iload_n C 1 dX7_orderEnd_89 rfl ?_
    refine z_iconst C 1 dX7_orderEnd_90 ?_
    refine z_iadd C dX7_orderEnd_91 ?_
    refine z_callVi C [0, 1] [(hM, .inr (7, [.ref aS, .ref aPa, .int (z_I kn), .ref aSl, .ref aSv, .ref aPd, .int (z_I ln)])), (aPd, z_ai cI 80 pd)] [.int (z_I (k + 1))] [] (c_X7_digit l D cI cZ cO hM aS aPa aSl aSv aPd kn ln sg pd (k + 1) (by first | assumption | omega) (by first | assumption | omega) (by first | assumption | omega) (by first | assumption | omega)) gX7_orderEnd_X7_digit rfl zd_X7_digit rfl (by decide) rfl rfl rfl (by decide) rfl rfl rfl (Nat.le_of_ble_eq_true rfl) (by decide) dX7_orderEnd_92 ?_
    refine z_if_ge C 103 dX7_orderEnd_95 (by decide) (by omega) (fun hc4 => ?_) (fun hc4 => ?_)
    · skip
      refine z_aload_n C 0 dX7_orderEnd_103 rfl ?_
      refine z_iload_n C 1 dX7_orderEnd_104 rfl ?_
      refine z_iconst C 2 dX7_orderEnd_105 ?_
      refine z_iadd C dX7_orderEnd_106 ?_
      refine z_callVi C [0, 1] [(hM, .inr (7, [.ref aS, .ref aPa, .int (z_I kn), .ref aSl, .ref aSv, .ref aPd, .int (z_I ln)])), (aPd, z_ai cI 80 pd)] [.int (z_I (k + 2))] [] (c_X7_sign l D cI cZ cO hM aS aPa aSl aSv aPd kn ln sg pd (k + 2) (by first | assumption | omega) (by first | assumption | omega) (by first | assumption | omega) (by first | assumption | omega)) gX7_orderEnd_X7_sign rfl zd_X7_sign rfl (by decide) rfl rfl rfl (by decide) rfl rfl rfl (Nat.le_of_ble_eq_true rfl) (by decide) dX7_orderEnd_107 ?_
      refine z_bipush C 61 dX7_orderEnd_110 (by decide) ?_
      refine z_icmp_ne C 125 dX7_orderEnd_112 (by decide) (by omega) (by omega) (fun hc5 => ?_) (fun hc5 => ?_)
      · skip
        refine z_bipush C (-3) dX7_orderEnd_125 (by decide) ?_
        refine z_iload_n C 1 dX7_orderEnd_127 rfl ?_
        refine z_isub C dX7_orderEnd_128 ?_
        exact z_iret C hQ rfl (by unfold z_oe; (repeat' split) <;> first | rfl | (exfalso; omega)) dX7_orderEnd_129
      · skip
        refine z_aload_n C 0 dX7_orderEnd_115 rfl ?_
        refine z_iload_n C 1 dX7_orderEnd_116 rfl ?_
        refine z_iconst C 3 dX7_orderEnd_117 ?_
        refine z_iadd C dX7_orderEnd_118 ?_
        refine z_callVi C [0, 1] [(hM, .inr (7, [.ref aS, .ref aPa, .int (z_I kn), .ref aSl, .ref aSv, .ref aPd, .int (z_I ln)])), (aPd, z_ai cI 80 pd)] [.int (z_I (k + 3))] [] (c_X7_numberEnd l D cI cZ cO hM aS aPa aSl aSv aPd kn ln sg pd (k + 3) (by first | assumption | omega) (by first | assumption | omega) (by first | assumption | omega) (by first | assumption | omega)) gX7_orderEnd_X7_numberEnd rfl zd_X7_numberEnd rfl (by decide) rfl rfl rfl (by decide) rfl rfl rfl (Nat.le_of_ble_eq_true rfl) (by decide) dX7_orderEnd_119 ?_
        refine z_goto C 129 dX7_orderEnd_122 (by decide) ?_
        exact z_iret C hQ rfl (by unfold z_oe; (repeat' split) <;> first | rfl | (exfalso; omega)) dX7_orderEnd_129
    · skip
      refine z_bipush C (-2) dX7_orderEnd_98 (by decide) ?_
      refine z_iload_n C 1 dX7_orderEnd_100 rfl ?_
      refine z_isub C dX7_orderEnd_101 ?_
      exact z_iret C hQ rfl (by unfold z_oe; (repeat' split) <;> first | rfl | (exfalso; omega)) dX7_orderEnd_102
  by_cases hc6 : (z_mg ln sg k) = 114
  · skip
    refine z_look C 130 dX7_orderEnd_5 (by decide +kernel) (by omega) (by rw [hc6]) (by decide) ?_
    refine z_iload_n C 1 dX7_orderEnd_130 rfl ?_
    refine z_iconst C 1 dX7_orderEnd_131 ?_
    refine z_iadd C dX7_orderEnd_132 ?_
    exact z_iret C hQ rfl (by unfold z_oe; (repeat' split) <;> first | rfl | (exfalso; omega)) dX7_orderEnd_133
  by_cases hc7 : (z_mg ln sg k) = 116
  · skip
    refine z_look C 80 dX7_orderEnd_5 (by decide +kernel) (by omega) (by rw [hc7]) (by decide) ?_
    refine z_aload_n C 0 dX7_orderEnd_80 rfl ?_
    refine z_iload_n C 1 dX7_orderEnd_81 rfl ?_
    refine z_iconst C 1 dX7_orderEnd_82 ?_
    refine z_iadd C dX7_orderEnd_83 ?_
    refine z_callVi C [0, 1] [(hM, .inr (7, [.ref aS, .ref aPa, .int (z_I kn), .ref aSl, .ref aSv, .ref aPd, .int (z_I ln)])), (aPd, z_ai cI 80 pd)] [.int (z_I (k + 1))] [] (c_X7_numberEnd l D cI cZ cO hM aS aPa aSl aSv aPd kn ln sg pd (k + 1) (by first | assumption | omega) (by first | assumption | omega) (by first | assumption | omega) (by first | assumption | omega)) gX7_orderEnd_X7_numberEnd rfl zd_X7_numberEnd rfl (by decide) rfl rfl rfl (by decide) rfl rfl rfl (Nat.le_of_ble_eq_true rfl) (by decide) dX7_orderEnd_84 ?_
    exact z_iret C hQ rfl (by unfold z_oe; (repeat' split) <;> first | rfl | (exfalso; omega)) dX7_orderEnd_87
  by_cases hc8 : (z_mg ln sg k) = 119
  · skip
    refine z_look C 130 dX7_orderEnd_5 (by decide +kernel) (by omega) (by rw [hc8]) (by decide) ?_
    refine z_iload_n C 1 dX7_orderEnd_130 rfl ?_
    refine z_iconst C 1 dX7_orderEnd_131 ?_
    refine z_iadd C dX7_orderEnd_132 ?_
    exact z_iret C hQ rfl (by unfold z_oe; (repeat' split) <;> first | rfl | (exfalso; omega)) dX7_orderEnd_133
  refine z_look C 134 dX7_orderEnd_5 (by decide +kernel) (by omega) (z_off5 hc1 hc3 hc6 hc7 hc8) (by decide) ?_
  refine z_iconst C (-1) dX7_orderEnd_134 ?_
  refine z_iload_n C 1 dX7_orderEnd_135 rfl ?_
  refine z_isub C dX7_orderEnd_136 ?_
  exact z_iret C hQ rfl (by unfold z_oe; (repeat' split) <;> first | rfl | (exfalso; omega)) dX7_orderEnd_137
theorem zi_X7_fault_X7 : ∀ w ∈ u_ws RX7 TX7 7, w ∈ wsX7_fault := by decide +kernel
theorem zl_X7_fault_109 : Cond.fieldLink RX7 109 "RippleCountsModel" "length" "I" ∈ wsX7_fault := by decide +kernel
theorem zd_X7_fault : yX7_fault.cls ≠ "java/lang/invoke/MethodHandle" ∧ yX7_fault.cls ≠ "java/lang/invoke/VarHandle" ∧ (parseMethodDescriptor yX7_fault.desc).map (fun d => d.parameters.length) = some 0 := by decide +kernel
set_option maxHeartbeats 4000000 in
set_option maxRecDepth 100000 in
theorem c_X7_fault (l : Launch) (D : va_G) (cI cZ cO : ClassId) (hM aS aPa aSl aSv aPd : Nat) (kn ln : Int) (sg pd : Int → Int) (hln : 0 ≤ ln ∧ ln ≤ 80) (hsg : ∀ i : Int, 0 ≤ i → i < ln → 0 ≤ sg i ∧ sg i < 256) (hpr : z_pr ln sg pd) : z_Mi l yX7_fault wsX7_fault 4 85 D (z_T cI cZ cO) [.ref hM] ([(hM, .inr (7, [.ref aS, .ref aPa, .int (z_I kn), .ref aSl, .ref aSv, .ref aPd, .int (z_I ln)])), (aPd, z_ai cI 80 pd)]) ([(hM, .inr (7, [.ref aS, .ref aPa, .int (z_I kn), .ref aSl, .ref aSv, .ref aPd, .int (z_I ln)])), (aPd, z_ai cI 80 pd)]) (z_ff ln sg 0 0 ln.toNat) := by
  refine z_Mi_of (cc := cX7_fault) (nL := 4) (ret := (some .int)) (by decide +kernel) rfl (Nat.le_of_ble_eq_true rfl) ?_
  intro p e s m args below meth c A Q C hQ
  change z_V p l e { frames := 4, cells := 0, slots := 0, locals := 85 } s m args below meth c D A 4 0 0 Q ([(hM, .inr (7, [.ref aS, .ref aPa, .int (z_I kn), .ref aSl, .ref aSv, .ref aPd, .int (z_I ln)])), (aPd, z_ai cI 80 pd)]) 0 [(0, .ref hM)] []
  refine z_iconst C 0 dX7_fault_0 ?_
  refine z_istore_n C [(1, .int (z_I 0)), (0, .ref hM)] dX7_fault_1 (by decide) rfl ?_
  refine z_iconst C 0 dX7_fault_2 ?_
  refine z_istore_n C [(2, .int (z_I 0)), (1, .int (z_I 0)), (0, .ref hM)] dX7_fault_3 (by decide) rfl ?_
  have loop4 : ∀ (zn : Nat) (q : Int) (j : Int), 0 ≤ j ∧ 2 * j ≤ q ∧ q ≤ ln → z_ff ln sg 0 0 ln.toNat = z_ff ln sg q 0 (ln - q).toNat → (80 - j) < (zn : Int) → z_V p l e { frames := 4, cells := 0, slots := 0, locals := 85 } s m args below meth c D A 4 0 0 Q [(hM, .inr (7, [.ref aS, .ref aPa, .int (z_I kn), .ref aSl, .ref aSv, .ref aPd, .int (z_I ln)])), (aPd, z_ai cI 80 pd)] 4 [(2, .int (z_I j)), (1, .int (z_I q)), (0, .ref hM)] [] := by
    intro zn
    induction zn with
    | zero => intro q j hj ha hm4; exact absurd hm4 (by omega)
    | succ zn4 ih4 =>
      intro q j hj ha hm4
      have hoe := z_oe_rng ln sg (k := q) (by omega)
      have hff := z_ff_0 (sg := sg) (k := q) (len := ln) (by omega) (by omega)
      refine z_iload_n C 0 dX7_fault_4 rfl ?_
      refine z_bipush C 80 dX7_fault_5 (by decide) ?_
      refine z_icmp_ge C 57 dX7_fault_7 (by decide) (by omega) (by omega) (fun hc1 => ?_) (fun hc1 => ?_)
      · skip
        refine z_bipush C (-6) dX7_fault_57 (by decide) ?_
        exact z_iret C hQ rfl (by exfalso; omega) dX7_fault_59
      · skip
        refine z_aload_n C 2 dX7_fault_10 rfl ?_
        refine z_iload_n C 1 dX7_fault_11 rfl ?_
        refine z_callVi C [0, 1] [(hM, .inr (7, [.ref aS, .ref aPa, .int (z_I kn), .ref aSl, .ref aSv, .ref aPd, .int (z_I ln)])), (aPd, z_ai cI 80 pd)] [.int (z_I q)] [] (c_X7_orderEnd l D cI cZ cO hM aS aPa aSl aSv aPd kn ln sg pd q (by first | assumption | omega) (by first | assumption | omega) (by first | assumption | omega) (by first | assumption | omega)) gX7_fault_X7_orderEnd rfl zd_X7_orderEnd rfl (by decide) rfl rfl rfl (by decide) rfl rfl rfl (Nat.le_of_ble_eq_true rfl) (by decide) dX7_fault_12 ?_
        refine z_istore_n C [(3, .int (z_I (z_oe ln sg q))), (2, .int (z_I j)), (1, .int (z_I q)), (0, .ref hM)] dX7_fault_15 (by decide) rfl ?_
        refine z_iload_n C 0 dX7_fault_16 rfl ?_
        refine z_if_ge C 24 dX7_fault_17 (by decide) (by omega) (fun hc2 => ?_) (fun hc2 => ?_)
        · skip
          have hmg := z_mg_rng hsg (show 0 ≤ z_oe ln sg q by omega)
          have hbd := z_oe_bd (sg := sg) (len := ln) (k := q) (by omega) (by omega) (by omega)
          refine z_iload_n C 0 dX7_fault_24 rfl ?_
          refine z_aload_n C 3 dX7_fault_25 rfl ?_
          refine z_get C 0 6 zi_X7_fault_X7 rfl rfl (by decide) zl_X7_fault_109 rfl rfl dX7_fault_26 ?_
          refine z_icmp_ne C 35 dX7_fault_29 (by decide) (by omega) (by omega) (fun hc3 => ?_) (fun hc3 => ?_)
          · skip
            have hne : ¬ z_oe ln sg q = ln := by omega
            refine z_aload_n C 3 dX7_fault_35 rfl ?_
            refine z_iload_n C 0 dX7_fault_36 rfl ?_
            refine z_callVi C [0, 1] [(hM, .inr (7, [.ref aS, .ref aPa, .int (z_I kn), .ref aSl, .ref aSv, .ref aPd, .int (z_I ln)])), (aPd, z_ai cI 80 pd)] [.int (z_I (z_oe ln sg q))] [] (c_X7_sign l D cI cZ cO hM aS aPa aSl aSv aPd kn ln sg pd (z_oe ln sg q) (by first | assumption | omega) (by first | assumption | omega) (by first | assumption | omega) (by first | assumption | omega)) gX7_fault_X7_sign rfl zd_X7_sign rfl (by decide) rfl rfl rfl (by decide) rfl rfl rfl (Nat.le_of_ble_eq_true rfl) (by decide) dX7_fault_37 ?_
            refine z_bipush C 59 dX7_fault_40 (by decide) ?_
            refine z_icmp_eq C 47 dX7_fault_42 (by decide) (by omega) (by omega) (fun hc4 => ?_) (fun hc4 => ?_)
            · skip
              refine z_iload_n C 0 dX7_fault_47 rfl ?_
              refine z_iconst C 1 dX7_fault_48 ?_
              refine z_iadd C dX7_fault_49 ?_
              refine z_istore_n C [(1, .int (z_I ((z_oe ln sg q) + 1))), (3, .int (z_I (z_oe ln sg q))), (2, .int (z_I j)), (0, .ref hM)] dX7_fault_50 (by decide) rfl ?_
              refine z_iinc C 2 [(2, .int (z_I (j + 1))), (1, .int (z_I ((z_oe ln sg q) + 1))), (3, .int (z_I (z_oe ln sg q))), (0, .ref hM)] dX7_fault_51 rfl (by decide) rfl ?_
              refine z_goto C 4 dX7_fault_54 (by decide) ?_
              refine z_lsub [(2, .int (z_I (j + 1))), (1, .int (z_I ((z_oe ln sg q) + 1))), (0, .ref hM)] [0, 1, 3] rfl ?_
              exact ih4 ((z_oe ln sg q) + 1) (j + 1) (by first | assumption | omega) (by rw [ha, hff]; unfold z_fo; rw [if_neg (by omega), if_neg hne, if_neg (by omega)]) (by omega)
            · skip
              refine z_iload_n C 0 dX7_fault_45 rfl ?_
              exact z_iret C hQ rfl (by rw [ha, hff]; unfold z_fo; rw [if_neg (by omega), if_neg hne, if_pos (by omega)]) dX7_fault_46
          · skip
            refine z_bipush C (-6) dX7_fault_32 (by decide) ?_
            exact z_iret C hQ rfl (by rw [ha, hff]; unfold z_fo; rw [if_neg (by omega), if_pos (by omega)]) dX7_fault_34
        · skip
          refine z_iconst C (-1) dX7_fault_20 ?_
          refine z_iload_n C 0 dX7_fault_21 rfl ?_
          refine z_isub C dX7_fault_22 ?_
          exact z_iret C hQ rfl (by rw [ha, hff]; unfold z_fo; rw [if_pos (by omega)]) dX7_fault_23
  exact loop4 81 0 0 (by first | assumption | omega) (by rw [Int.sub_zero]) (by omega)
theorem zi_X7_wipe_X7 : ∀ w ∈ u_ws RX7 TX7 7, w ∈ wsX7_wipe := by decide +kernel
theorem zl_X7_wipe_109 : Cond.fieldLink RX7 109 "RippleCountsModel" "length" "I" ∈ wsX7_wipe := by decide +kernel
theorem zd_X7_wipe : yX7_wipe.cls ≠ "java/lang/invoke/MethodHandle" ∧ yX7_wipe.cls ≠ "java/lang/invoke/VarHandle" ∧ (parseMethodDescriptor yX7_wipe.desc).map (fun d => d.parameters.length) = some 0 := by decide +kernel
set_option maxHeartbeats 4000000 in
set_option maxRecDepth 100000 in
theorem c_X7_wipe (l : Launch) (D : va_G) (cI cZ cO : ClassId) (hM aS aPa aSl aSv aPd : Nat) (kn ln : Int) (sg pd : Int → Int) : z_Mi l yX7_wipe wsX7_wipe 0 0 D (z_T cI cZ cO) [.ref hM] ([(hM, .inr (7, [.ref aS, .ref aPa, .int (z_I kn), .ref aSl, .ref aSv, .ref aPd, .int (z_I ln)])), (aPd, z_ai cI 80 pd)]) ([(hM, .inr (7, [.ref aS, .ref aPa, .int (z_I kn), .ref aSl, .ref aSv, .ref aPd, .int (z_I 0)])), (aPd, z_ai cI 80 pd)]) ln := by
  refine z_Mi_of (cc := cX7_wipe) (nL := 2) (ret := (some .int)) (by decide +kernel) rfl (Nat.le_of_ble_eq_true rfl) ?_
  intro p e s m args below meth c A Q C hQ
  change z_V p l e { frames := 0, cells := 0, slots := 0, locals := 0 } s m args below meth c D A 2 0 0 Q ([(hM, .inr (7, [.ref aS, .ref aPa, .int (z_I kn), .ref aSl, .ref aSv, .ref aPd, .int (z_I ln)])), (aPd, z_ai cI 80 pd)]) 0 [(0, .ref hM)] []
  refine z_aload_n C 0 dX7_wipe_0 rfl ?_
  refine z_get C 0 6 zi_X7_wipe_X7 rfl rfl (by decide) zl_X7_wipe_109 rfl rfl dX7_wipe_1 ?_
  refine z_istore_n C [(1, .int (z_I ln)), (0, .ref hM)] dX7_wipe_4 (by decide) rfl ?_
  refine z_aload_n C 1 dX7_wipe_5 rfl ?_
  refine z_iconst C 0 dX7_wipe_6 ?_
  refine z_put C 0 6 ([(hM, .inr (7, [.ref aS, .ref aPa, .int (z_I kn), .ref aSl, .ref aSv, .ref aPd, .int (z_I 0)])), (aPd, z_ai cI 80 pd)]) zi_X7_wipe_X7 tyX7_ok nmX7 rfl rfl (by decide) zl_X7_wipe_109 rfl rfl rfl rfl (Nat.le_of_ble_eq_true rfl) rfl dX7_wipe_7 ?_
  refine z_iload_n C 0 dX7_wipe_10 rfl ?_
  exact z_iret C hQ rfl rfl dX7_wipe_11
