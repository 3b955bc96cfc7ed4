theorem zi_X7_nextDue_X7 : ∀ w ∈ u_ws RX7 TX7 7, w ∈ wsX7_nextDue := by decide +kernel
theorem zl_X7_nextDue_7 : Cond.fieldLink RX7 7 "RippleCountsModel" "s" "[I" ∈ wsX7_nextDue := by decide +kernel
theorem zd_X7_nextDue : yX7_nextDue.cls ≠ "java/lang/invoke/MethodHandle" ∧ yX7_nextDue.cls ≠ "java/lang/invoke/VarHandle" ∧ (parseMethodDescriptor yX7_nextDue.desc).map (fun d => d.parameters.length) = some 1 := by decide +kernel
set_option maxHeartbeats 4000000 in
set_option maxRecDepth 100000 in
theorem c_X7_nextDue (l : Launch) (D : va_G) (cI cZ cO : ClassId) (hM aS aPa aSl aSv aPd : Nat) (kn ln : Int) (f : Int → Int) (k : Int) (hk : 0 ≤ k ∧ k < 5) (hf : ∀ i : Int, 0 ≤ i → i < 21 → 0 ≤ f (0 + 24 + 21 * k + i) ∧ f (0 + 24 + 21 * k + i) < 1000000) : z_Mi l yX7_nextDue wsX7_nextDue 1 22 D (z_T cI cZ cO) [.ref hM, .int (z_I k)] ([(hM, .inr (7, [.ref aS, .ref aPa, .int (z_I kn), .ref aSl, .ref aSv, .ref aPd, .int (z_I ln)])), (aS, z_ai cI 712 f)]) ([(hM, .inr (7, [.ref aS, .ref aPa, .int (z_I kn), .ref aSl, .ref aSv, .ref aPd, .int (z_I ln)])), (aS, z_ai cI 712 f)]) (z_fst (fun i => f (0 + 24 + 21 * k + i)) 0 21) := by
  refine z_Mi_of (cc := cX7_nextDue) (nL := 3) (ret := (some .int)) (by decide +kernel) rfl (Nat.le_of_ble_eq_true rfl) ?_
  intro p e s m args below meth c A Q C hQ
  change z_V p l e { frames := 1, cells := 0, slots := 0, locals := 22 } s m args below meth c D A 3 0 0 Q ([(hM, .inr (7, [.ref aS, .ref aPa, .int (z_I kn), .ref aSl, .ref aSv, .ref aPd, .int (z_I ln)])), (aS, z_ai cI 712 f)]) 0 [(0, .ref hM), (1, .int (z_I k))] []
  refine z_iconst C 0 dX7_nextDue_0 ?_
  refine z_istore_n C [(2, .int (z_I 0)), (0, .ref hM), (1, .int (z_I k))] dX7_nextDue_1 (by decide) rfl ?_
  have loop2 : ∀ (zn : Nat) (j : Int), 0 ≤ j ∧ j ≤ 21 → z_fst (fun i => f (0 + 24 + 21 * k + i)) 0 21 = z_fst (fun i => f (0 + 24 + 21 * k + i)) j (21 - j).toNat → (21 - j) < (zn : Int) → z_V p l e { frames := 1, cells := 0, slots := 0, locals := 22 } s m args below meth c D A 3 0 0 Q [(hM, .inr (7, [.ref aS, .ref aPa, .int (z_I kn), .ref aSl, .ref aSv, .ref aPd, .int (z_I ln)])), (aS, z_ai cI 712 f)] 2 [(2, .int (z_I j)), (0, .ref hM), (1, .int (z_I k))] [] := by
    intro zn
    induction zn with
    | zero => intro j hj ha hm2; exact absurd hm2 (by omega)
    | succ zn2 ih2 =>
      intro j hj ha hm2
      refine z_iload_n C 0 dX7_nextDue_2 rfl ?_
      refine z_bipush C 20 dX7_nextDue_3 (by decide) ?_
      refine z_icmp_gt C 30 dX7_nextDue_5 (by decide) (by omega) (by omega) (fun hc1 => ?_) (fun hc1 => ?_)
      · skip
        obtain rfl : j = 21 := by omega
        refine z_bipush C (-6) dX7_nextDue_30 (by decide) ?_
        exact z_iret C hQ rfl (by rw [ha]; rfl) dX7_nextDue_32
      · skip
        have hM0 := hf j (by omega) (by omega)
        refine z_aload_n C 1 dX7_nextDue_8 rfl ?_
        refine z_get C 0 0 zi_X7_nextDue_X7 rfl rfl (by decide) zl_X7_nextDue_7 rfl rfl dX7_nextDue_9 ?_
        refine z_iconst C 0 dX7_nextDue_12 ?_
        refine z_iload_n C 2 dX7_nextDue_13 rfl ?_
        refine z_iload_n C 0 dX7_nextDue_14 rfl ?_
        refine z_callSi C [] [(hM, .inr (7, [.ref aS, .ref aPa, .int (z_I kn), .ref aSl, .ref aSv, .ref aPd, .int (z_I ln)])), (aS, z_ai cI 712 f)] [.int (z_I 0), .int (z_I k), .int (z_I j)] [.ref aS] (c_X7_due l D cI cZ cO 0 k j ) gX7_nextDue_X7_due rfl zd_X7_due rfl (by decide) rfl (by decide) rfl rfl rfl (Nat.le_of_ble_eq_true rfl) (by decide) dX7_nextDue_15 ?_
        refine z_iald C 1 0 rfl rfl (by decide) (by omega) dX7_nextDue_18 ?_
        refine z_if_le C 24 dX7_nextDue_19 (by decide) (by omega) (fun hc2 => ?_) (fun hc2 => ?_)
        · skip
          have hc2n : ¬ 0 < (fun i => f (0 + 24 + 21 * k + i)) j := by show ¬ 0 < f (0 + 24 + 21 * k + j); omega
          refine z_iinc C 0 [(2, .int (z_I (j + 1))), (0, .ref hM), (1, .int (z_I k))] dX7_nextDue_24 rfl (by decide) rfl ?_
          refine z_goto C 2 dX7_nextDue_27 (by decide) ?_
          exact ih2 (j + 1) (by first | assumption | omega) (by rw [ha, z_fst_neg (f := fun i => f (0 + 24 + 21 * k + i)) (m := (21 - (j + 1)).toNat) (by omega) hc2n]) (by omega)
        · skip
          have hc2p : 0 < (fun i => f (0 + 24 + 21 * k + i)) j := by show 0 < f (0 + 24 + 21 * k + j); omega
          refine z_iload_n C 0 dX7_nextDue_22 rfl ?_
          exact z_iret C hQ rfl (by rw [ha, z_fst_pos (f := fun i => f (0 + 24 + 21 * k + i)) (by omega) hc2p]) dX7_nextDue_23
  exact loop2 22 0 (by first | assumption | omega) rfl (by omega)
theorem zi_X7_of_X7 : ∀ w ∈ u_ws RX7 TX7 7, w ∈ wsX7_of := by decide +kernel
theorem zl_X7_of_7 : Cond.fieldLink RX7 7 "RippleCountsModel" "s" "[I" ∈ wsX7_of := by decide +kernel
theorem zd_X7_of : yX7_of.cls ≠ "java/lang/invoke/MethodHandle" ∧ yX7_of.cls ≠ "java/lang/invoke/VarHandle" ∧ (parseMethodDescriptor yX7_of.desc).map (fun d => d.parameters.length) = some 2 := by decide +kernel
set_option maxHeartbeats 4000000 in
set_option maxRecDepth 100000 in
theorem c_X7_of (l : Launch) (D : va_G) (cI cZ cO : ClassId) (hM aS aPa aSl aSv aPd : Nat) (kn ln : Int) (f : Int → Int) (ct : z_Ct) (k w : Int) (hrel : z_rel ct 0 f) (hok : z_ok ct) (htt : ct.1.1 ≤ 9999) (hk : -2147483648 ≤ k ∧ k < 2147483648) (hww : -2147483648 ≤ w ∧ w < 2147483648) : z_Mi l yX7_of wsX7_of 2 46 D (z_T cI cZ cO) [.ref hM, .int (z_I k), .int (z_I w)] ([(hM, .inr (7, [.ref aS, .ref aPa, .int (z_I kn), .ref aSl, .ref aSv, .ref aPd, .int (z_I ln)])), (aS, z_ai cI 712 f)]) ([(hM, .inr (7, [.ref aS, .ref aPa, .int (z_I kn), .ref aSl, .ref aSv, .ref aPd, .int (z_I ln)])), (aS, z_ai cI 712 f)]) (if 0 ≤ k ∧ k < ct.1.2.1 then (if w = 0 then ct.1.2.2.2.2.1 k else if w = 1 then z_bit ct.1.2.2.1 k else if w = 2 then z_it (fun j a => a + ct.1.2.2.2.2.2.2 (k * 21 + j)) 0 21 else if w = 3 then z_fst (fun i => ct.1.2.2.2.2.2.2 (k * 21 + (ct.1.1 + i) % 21)) 0 21 else if w = 4 then ct.1.2.2.2.2.2.1 k else -2) else -1) := by
  refine z_Mi_of (cc := cX7_of) (nL := 3) (ret := (some .int)) (by decide +kernel) rfl (Nat.le_of_ble_eq_true rfl) ?_
  intro p e s m args below meth c A Q C hQ
  change z_V p l e { frames := 2, cells := 0, slots := 0, locals := 46 } s m args below meth c D A 3 0 0 Q ([(hM, .inr (7, [.ref aS, .ref aPa, .int (z_I kn), .ref aSl, .ref aSv, .ref aPd, .int (z_I ln)])), (aS, z_ai cI 712 f)]) 0 [(0, .ref hM), (1, .int (z_I k)), (2, .int (z_I w))] []
  obtain ⟨hw, hrd, hsg, hho, hck, hlc, hld, hlw, hrl0⟩ := id hok
  obtain ⟨ht0, hst, hsh, hdl, hdu, hdn, hB, htot, hbit, hzero, how⟩ := id hw
  obtain ⟨hrn, hrr, hla⟩ := id hrd
  obtain ⟨hsn, hrk, hfo, hcnt, hinj, hsur⟩ := id hsg
  have hp := z_p2_le (k := ct.1.2.1) (by omega)
  obtain ⟨y0, y1, y2, y3, y4, y5, y6, y7, y8⟩ := hrel.1
  simp only [Int.zero_add] at y1 y2 y3 y4 y5 y6 y7 y8
  have hduB := z_wok_du hw
  refine z_iload_n C 1 dX7_of_0 rfl ?_
  refine z_iconst C 0 dX7_of_1 ?_
  refine z_aload_n C 0 dX7_of_2 rfl ?_
  refine z_iconst C 0 dX7_of_3 ?_
  refine z_callVi C [0, 1] [(hM, .inr (7, [.ref aS, .ref aPa, .int (z_I kn), .ref aSl, .ref aSv, .ref aPd, .int (z_I ln)])), (aS, z_ai cI 712 f)] [.int (z_I 0)] [.int (z_I 0), .int (z_I k)] (c_X7_stages l D cI cZ cO hM aS aPa aSl aSv aPd kn ln f 0 (by first | assumption | omega)) gX7_of_X7_stages rfl zd_X7_stages rfl (by decide) rfl rfl rfl (by decide) rfl rfl rfl (Nat.le_of_ble_eq_true rfl) (by decide) dX7_of_4 ?_
  refine z_iconst C 1 dX7_of_7 ?_
  refine z_isub C dX7_of_8 ?_
  refine z_callSi C [] [(hM, .inr (7, [.ref aS, .ref aPa, .int (z_I kn), .ref aSl, .ref aSv, .ref aPd, .int (z_I ln)])), (aS, z_ai cI 712 f)] [.int (z_I k), .int (z_I 0), .int (z_I ((f 0) - 1))] [] (c_X7_in l D cI cZ cO k 0 ((f 0) - 1) (by first | assumption | omega) (by first | assumption | omega) (by first | assumption | omega)) gX7_of_X7_in rfl zd_X7_in rfl (by decide) rfl (by decide) rfl rfl rfl (Nat.le_of_ble_eq_true rfl) (by decide) dX7_of_9 ?_
  refine z_if_ne C 17 dX7_of_12 (by decide) (by omega) (fun hc1 => ?_) (fun hc1 => ?_)
  · skip
    have hz := z_if1.mp hc1
    have h9 := hrel.2.1 k (by omega) (by omega)
    simp only [Int.zero_add] at h9
    refine z_iload_n C 2 dX7_of_17 rfl ?_
    by_cases hc2 : w = 0
    · skip
      refine z_tabI C 52 0 dX7_of_18 hc2 (by decide) rfl (by decide) ?_
      refine z_aload_n C 0 dX7_of_52 rfl ?_
      refine z_get C 0 0 zi_X7_of_X7 rfl rfl (by decide) zl_X7_of_7 rfl rfl dX7_of_53 ?_
      refine z_bipush C 9 dX7_of_56 (by decide) ?_
      refine z_iload_n C 1 dX7_of_58 rfl ?_
      refine z_iadd C dX7_of_59 ?_
      refine z_iald C 1 0 rfl rfl (by decide) (by omega) dX7_of_60 ?_
      exact z_iret C hQ rfl (by rw [if_pos (by omega), if_pos (by omega)]; exact h9.1) dX7_of_61
    by_cases hc3 : w = 1
    · skip
      refine z_tabI C 62 1 dX7_of_18 hc3 (by decide) rfl (by decide) ?_
      refine z_aload_n C 0 dX7_of_62 rfl ?_
      refine z_get C 0 0 zi_X7_of_X7 rfl rfl (by decide) zl_X7_of_7 rfl rfl dX7_of_63 ?_
      refine z_bipush C 14 dX7_of_66 (by decide) ?_
      refine z_iload_n C 1 dX7_of_68 rfl ?_
      refine z_iadd C dX7_of_69 ?_
      refine z_iald C 1 0 rfl rfl (by decide) (by omega) dX7_of_70 ?_
      exact z_iret C hQ rfl (by rw [if_pos (by omega), if_neg (by omega), if_pos (by omega)]; exact h9.2.1) dX7_of_71
    by_cases hc4 : w = 2
    · skip
      refine z_tabI C 72 2 dX7_of_18 hc4 (by decide) rfl (by decide) ?_
      refine z_aload_n C 0 dX7_of_72 rfl ?_
      refine z_iconst C 0 dX7_of_73 ?_
      refine z_iload_n C 1 dX7_of_74 rfl ?_
      refine z_callVi C [0, 1] [(hM, .inr (7, [.ref aS, .ref aPa, .int (z_I kn), .ref aSl, .ref aSv, .ref aPd, .int (z_I ln)])), (aS, z_ai cI 712 f)] [.int (z_I 0), .int (z_I k)] [] (c_X7_onWay l D cI cZ cO hM aS aPa aSl aSv aPd kn ln f 0 k (by first | assumption | omega) (by first | assumption | omega)) gX7_of_X7_onWay rfl zd_X7_onWay rfl (by decide) rfl rfl rfl (by decide) rfl rfl rfl (Nat.le_of_ble_eq_true rfl) (by decide) dX7_of_75 ?_
      exact z_iret C hQ rfl (by rw [if_pos (by omega), if_neg (by omega), if_neg (by omega), if_pos (by omega)]; exact z_onW hrel ht0 (by omega)) dX7_of_78
    by_cases hc5 : w = 3
    · skip
      refine z_tabI C 79 3 dX7_of_18 hc5 (by decide) rfl (by decide) ?_
      refine z_aload_n C 0 dX7_of_79 rfl ?_
      refine z_iload_n C 1 dX7_of_80 rfl ?_
      refine z_callVi C [0, 1] [(hM, .inr (7, [.ref aS, .ref aPa, .int (z_I kn), .ref aSl, .ref aSv, .ref aPd, .int (z_I ln)])), (aS, z_ai cI 712 f)] [.int (z_I k)] [] (c_X7_nextDue l D cI cZ cO hM aS aPa aSl aSv aPd kn ln f k (by first | assumption | omega) (fun i i1 i2 => by have e := hrel.2.2.1 k i (by omega) (by omega) i1 (by omega) trivial; dsimp only at e; rw [e]; exact ⟨hdu _ (by omega) (by omega), by have h8 := hduB (k * 21 + (ct.1.1 + i) % 21) (by omega) (by omega); omega⟩)) gX7_of_X7_nextDue rfl zd_X7_nextDue rfl (by decide) rfl rfl rfl (by decide) rfl rfl rfl (Nat.le_of_ble_eq_true rfl) (by decide) dX7_of_81 ?_
      exact z_iret C hQ rfl (by rw [if_pos (by omega), if_neg (by omega), if_neg (by omega), if_neg (by omega), if_pos (by omega)]; exact z_nxt hrel (by omega)) dX7_of_84
    by_cases hc6 : w = 4
    · skip
      refine z_tabI C 85 4 dX7_of_18 hc6 (by decide) rfl (by decide) ?_
      refine z_aload_n C 0 dX7_of_85 rfl ?_
      refine z_get C 0 0 zi_X7_of_X7 rfl rfl (by decide) zl_X7_of_7 rfl rfl dX7_of_86 ?_
      refine z_bipush C 19 dX7_of_89 (by decide) ?_
      refine z_iload_n C 1 dX7_of_91 rfl ?_
      refine z_iadd C dX7_of_92 ?_
      refine z_iald C 1 0 rfl rfl (by decide) (by omega) dX7_of_93 ?_
      exact z_iret C hQ rfl (by rw [if_pos (by omega), if_neg (by omega), if_neg (by omega), if_neg (by omega), if_neg (by omega), if_pos (by omega)]; exact h9.2.2) dX7_of_94
    refine z_tabO C 95 dX7_of_18 (by omega) (by omega) (by decide) ?_
    refine z_bipush C (-2) dX7_of_95 (by decide) ?_
    exact z_iret C hQ rfl (by rw [if_pos (by omega), if_neg (by omega), if_neg (by omega), if_neg (by omega), if_neg (by omega), if_neg (by omega)]) dX7_of_97
  · skip
    have hz := z_if0.mp (by omega)
    refine z_iconst C (-1) dX7_of_15 ?_
    exact z_iret C hQ rfl (by rw [if_neg (by omega)]) dX7_of_16
theorem zi_X7_ofReading_X7 : ∀ w ∈ u_ws RX7 TX7 7, w ∈ wsX7_ofReading := by decide +kernel
theorem zl_X7_ofReading_7 : Cond.fieldLink RX7 7 "RippleCountsModel" "s" "[I" ∈ wsX7_ofReading := by decide +kernel
theorem zd_X7_ofReading : yX7_ofReading.cls ≠ "java/lang/invoke/MethodHandle" ∧ yX7_ofReading.cls ≠ "java/lang/invoke/VarHandle" ∧ (parseMethodDescriptor yX7_ofReading.desc).map (fun d => d.parameters.length) = some 2 := by decide +kernel
set_option maxHeartbeats 4000000 in
set_option maxRecDepth 100000 in
theorem c_X7_ofReading (l : Launch) (D : va_G) (cI cZ cO : ClassId) (hM aS aPa aSl aSv aPd : Nat) (kn ln : Int) (f : Int → Int) (ct : z_Ct) (k w : Int) (hrel : z_rel ct 0 f) (hok : z_ok ct) (htt : ct.1.1 ≤ 9999) (hk : 0 ≤ k ∧ k < ct.2.1.1) (hww : 0 ≤ w ∧ w ≤ 4) : z_Mi l yX7_ofReading wsX7_ofReading 0 0 D (z_T cI cZ cO) [.ref hM, .int (z_I k), .int (z_I w)] ([(hM, .inr (7, [.ref aS, .ref aPa, .int (z_I kn), .ref aSl, .ref aSv, .ref aPd, .int (z_I ln)])), (aS, z_ai cI 712 f)]) ([(hM, .inr (7, [.ref aS, .ref aPa, .int (z_I kn), .ref aSl, .ref aSv, .ref aPd, .int (z_I ln)])), (aS, z_ai cI 712 f)]) (if w = 0 then ct.2.1.2.1 k else if w = 1 then ct.2.1.2.2.1 k else if w = 2 then ct.2.1.2.2.2.1 k else if w = 3 then ct.2.1.2.2.2.2 k else if ct.2.1.2.1 k = ct.2.1.2.2.2.1 k then 1 else 0) := by
  refine z_Mi_of (cc := cX7_ofReading) (nL := 6) (ret := (some .int)) (by decide +kernel) rfl (Nat.le_of_ble_eq_true rfl) ?_
  intro p e s m args below meth c A Q C hQ
  change z_V p l e { frames := 0, cells := 0, slots := 0, locals := 0 } s m args below meth c D A 6 0 0 Q ([(hM, .inr (7, [.ref aS, .ref aPa, .int (z_I kn), .ref aSl, .ref aSv, .ref aPd, .int (z_I ln)])), (aS, z_ai cI 712 f)]) 0 [(0, .ref hM), (1, .int (z_I k)), (2, .int (z_I w))] []
  obtain ⟨hw, hrd, hsg, hho, hck, hlc, hld, hlw, hrl0⟩ := id hok
  obtain ⟨ht0, hst, hsh, hdl, hdu, hdn, hB, htot, hbit, hzero, how⟩ := id hw
  obtain ⟨hrn, hrr, hla⟩ := id hrd
  obtain ⟨hsn, hrk, hfo, hcnt, hinj, hsur⟩ := id hsg
  have hp := z_p2_le (k := ct.1.2.1) (by omega)
  obtain ⟨y0, y1, y2, y3, y4, y5, y6, y7, y8⟩ := hrel.1
  simp only [Int.zero_add] at y1 y2 y3 y4 y5 y6 y7 y8
  have h9 := hrel.2.2.2.1 k (by omega) (by omega)
  simp only [Int.zero_add] at h9
  have h8 := hrr k (by omega) (by omega)
  have h7 := hla k (by omega) (by omega)
  have e64 : f (129 + k) / 64 % 32 = ct.2.1.2.1 k := by omega
  have e2 : f (129 + k) / 2 % 32 = ct.2.1.2.2.2.1 k := by omega
  have e2048 : f (129 + k) / 2048 = ct.2.1.2.2.1 k := by omega
  have em2 : f (129 + k) % 2 = ct.2.1.2.2.2.2 k := by omega
  clear h9
  refine z_aload_n C 0 dX7_ofReading_0 rfl ?_
  refine z_get C 0 0 zi_X7_ofReading_X7 rfl rfl (by decide) zl_X7_ofReading_7 rfl rfl dX7_ofReading_1 ?_
  refine z_sipush C 129 dX7_ofReading_4 (by decide) ?_
  refine z_iload_n C 1 dX7_ofReading_7 rfl ?_
  refine z_iadd C dX7_ofReading_8 ?_
  refine z_iald C 1 0 rfl rfl (by decide) (by omega) dX7_ofReading_9 ?_
  refine z_istore_n C [(3, .int (z_I (f (129 + k)))), (0, .ref hM), (1, .int (z_I k)), (2, .int (z_I w))] dX7_ofReading_10 (by decide) rfl ?_
  refine z_iload_n C 0 dX7_ofReading_11 rfl ?_
  refine z_bipush C 64 dX7_ofReading_12 (by decide) ?_
  refine z_idiv C dX7_ofReading_14 (by omega) (by omega) ?_
  refine z_bipush C 32 dX7_ofReading_15 (by decide) ?_
  refine z_irem C dX7_ofReading_17 (by omega) (by omega) ?_
  refine z_istore C [(4, .int (z_I (((f (129 + k)) / 64) % 32))), (3, .int (z_I (f (129 + k)))), (0, .ref hM), (1, .int (z_I k)), (2, .int (z_I w))] dX7_ofReading_18 (by decide) rfl ?_
  refine z_iload_n C 1 dX7_ofReading_20 rfl ?_
  refine z_iconst C 2 dX7_ofReading_21 ?_
  refine z_idiv C dX7_ofReading_22 (by omega) (by omega) ?_
  refine z_bipush C 32 dX7_ofReading_23 (by decide) ?_
  refine z_irem C dX7_ofReading_25 (by omega) (by omega) ?_
  refine z_istore C [(5, .int (z_I (((f (129 + k)) / 2) % 32))), (4, .int (z_I (((f (129 + k)) / 64) % 32))), (3, .int (z_I (f (129 + k)))), (0, .ref hM), (1, .int (z_I k)), (2, .int (z_I w))] dX7_ofReading_26 (by decide) rfl ?_
  refine z_iload_n C 5 dX7_ofReading_28 rfl ?_
  by_cases hc1 : w = 0
  · skip
    refine z_tabI C 60 0 dX7_ofReading_29 hc1 (by decide) rfl (by decide) ?_
    refine z_iload C 1 dX7_ofReading_60 rfl ?_
    exact z_iret C hQ rfl (by rw [if_pos (by omega)]; omega) dX7_ofReading_62
  by_cases hc2 : w = 1
  · skip
    refine z_tabI C 63 1 dX7_ofReading_29 hc2 (by decide) rfl (by decide) ?_
    refine z_iload_n C 2 dX7_ofReading_63 rfl ?_
    refine z_sipush C 2048 dX7_ofReading_64 (by decide) ?_
    refine z_idiv C dX7_ofReading_67 (by omega) (by omega) ?_
    exact z_iret C hQ rfl (by rw [if_neg (by omega), if_pos (by omega)]; omega) dX7_ofReading_68
  by_cases hc3 : w = 2
  · skip
    refine z_tabI C 69 2 dX7_ofReading_29 hc3 (by decide) rfl (by decide) ?_
    refine z_iload C 0 dX7_ofReading_69 rfl ?_
    exact z_iret C hQ rfl (by rw [if_neg (by omega), if_neg (by omega), if_pos (by omega)]; omega) dX7_ofReading_71
  by_cases hc4 : w = 3
  · skip
    refine z_tabI C 72 3 dX7_ofReading_29 hc4 (by decide) rfl (by decide) ?_
    refine z_iload_n C 2 dX7_ofReading_72 rfl ?_
    refine z_iconst C 2 dX7_ofReading_73 ?_
    refine z_irem C dX7_ofReading_74 (by omega) (by omega) ?_
    exact z_iret C hQ rfl (by rw [if_neg (by omega), if_neg (by omega), if_neg (by omega), if_pos (by omega)]; omega) dX7_ofReading_75
  refine z_tabO C 76 dX7_ofReading_29 (by omega) (by omega) (by decide) ?_
  refine z_iload C 1 dX7_ofReading_76 rfl ?_
  refine z_iload C 0 dX7_ofReading_78 rfl ?_
  refine z_icmp_ne C 87 dX7_ofReading_80 (by decide) (by omega) (by omega) (fun hc5 => ?_) (fun hc5 => ?_)
  · skip
    refine z_iconst C 0 dX7_ofReading_87 ?_
    exact z_iret C hQ rfl (by rw [if_neg (by omega), if_neg (by omega), if_neg (by omega), if_neg (by omega)]; first | (rw [if_pos (by omega)]; done) | (rw [if_neg (by omega)]; done)) dX7_ofReading_88
  · skip
    refine z_iconst C 1 dX7_ofReading_83 ?_
    refine z_goto C 88 dX7_ofReading_84 (by decide) ?_
    exact z_iret C hQ rfl (by rw [if_neg (by omega), if_neg (by omega), if_neg (by omega), if_neg (by omega)]; first | (rw [if_pos (by omega)]; done) | (rw [if_neg (by omega)]; done)) dX7_ofReading_88
theorem zi_X7_reading_X7 : ∀ w ∈ u_ws RX7 TX7 7, w ∈ wsX7_reading := by decide +kernel
theorem zl_X7_reading_7 : Cond.fieldLink RX7 7 "RippleCountsModel" "s" "[I" ∈ wsX7_reading := by decide +kernel
theorem zd_X7_reading : yX7_reading.cls ≠ "java/lang/invoke/MethodHandle" ∧ yX7_reading.cls ≠ "java/lang/invoke/VarHandle" ∧ (parseMethodDescriptor yX7_reading.desc).map (fun d => d.parameters.length) = some 2 := by decide +kernel
set_option maxHeartbeats 4000000 in
set_option maxRecDepth 100000 in
theorem c_X7_reading (l : Launch) (D : va_G) (cI cZ cO : ClassId) (hM aS aPa aSl aSv aPd : Nat) (kn ln : Int) (f : Int → Int) (ct : z_Ct) (k w : Int) (hrel : z_rel ct 0 f) (hok : z_ok ct) (htt : ct.1.1 ≤ 9999) (hk : -2147483648 ≤ k ∧ k < 2147483648) (hww : -2147483648 ≤ w ∧ w < 2147483648) : z_Mi l yX7_reading wsX7_reading 1 25 D (z_T cI cZ cO) [.ref hM, .int (z_I k), .int (z_I w)] ([(hM, .inr (7, [.ref aS, .ref aPa, .int (z_I kn), .ref aSl, .ref aSv, .ref aPd, .int (z_I ln)])), (aS, z_ai cI 712 f)]) ([(hM, .inr (7, [.ref aS, .ref aPa, .int (z_I kn), .ref aSl, .ref aSv, .ref aPd, .int (z_I ln)])), (aS, z_ai cI 712 f)]) (if 0 ≤ k ∧ k < ct.2.1.1 then (if w = 0 then ct.2.1.2.1 k else if w = 1 then ct.2.1.2.2.1 k else if w = 2 then ct.2.1.2.2.2.1 k else if w = 3 then (if ct.2.1.2.2.2.2 k = 0 then 0 else 1) else if w = 4 then (if ct.2.1.2.1 k = ct.2.1.2.2.2.1 k then 1 else 0) else -2) else -1) := by
  refine z_Mi_of (cc := cX7_reading) (nL := 3) (ret := (some .int)) (by decide +kernel) rfl (Nat.le_of_ble_eq_true rfl) ?_
  intro p e s m args below meth c A Q C hQ
  change z_V p l e { frames := 1, cells := 0, slots := 0, locals := 25 } s m args below meth c D A 3 0 0 Q ([(hM, .inr (7, [.ref aS, .ref aPa, .int (z_I kn), .ref aSl, .ref aSv, .ref aPd, .int (z_I ln)])), (aS, z_ai cI 712 f)]) 0 [(0, .ref hM), (1, .int (z_I k)), (2, .int (z_I w))] []
  obtain ⟨hw, hrd, hsg, hho, hck, hlc, hld, hlw, hrl0⟩ := id hok
  obtain ⟨ht0, hst, hsh, hdl, hdu, hdn, hB, htot, hbit, hzero, how⟩ := id hw
  obtain ⟨hrn, hrr, hla⟩ := id hrd
  obtain ⟨hsn, hrk, hfo, hcnt, hinj, hsur⟩ := id hsg
  have hp := z_p2_le (k := ct.1.2.1) (by omega)
  obtain ⟨y0, y1, y2, y3, y4, y5, y6, y7, y8⟩ := hrel.1
  simp only [Int.zero_add] at y1 y2 y3 y4 y5 y6 y7 y8
  refine z_iload_n C 1 dX7_reading_0 rfl ?_
  refine z_iconst C 0 dX7_reading_1 ?_
  refine z_aload_n C 0 dX7_reading_2 rfl ?_
  refine z_get C 0 0 zi_X7_reading_X7 rfl rfl (by decide) zl_X7_reading_7 rfl rfl dX7_reading_3 ?_
  refine z_bipush C 7 dX7_reading_6 (by decide) ?_
  refine z_iald C 1 0 rfl rfl (by decide) (by omega) dX7_reading_8 ?_
  refine z_iconst C 1 dX7_reading_9 ?_
  refine z_isub C dX7_reading_10 ?_
  refine z_callSi C [] [(hM, .inr (7, [.ref aS, .ref aPa, .int (z_I kn), .ref aSl, .ref aSv, .ref aPd, .int (z_I ln)])), (aS, z_ai cI 712 f)] [.int (z_I k), .int (z_I 0), .int (z_I ((f 7) - 1))] [] (c_X7_in l D cI cZ cO k 0 ((f 7) - 1) (by first | assumption | omega) (by first | assumption | omega) (by first | assumption | omega)) gX7_reading_X7_in rfl zd_X7_in rfl (by decide) rfl (by decide) rfl rfl rfl (Nat.le_of_ble_eq_true rfl) (by decide) dX7_reading_11 ?_
  refine z_if_ne C 19 dX7_reading_14 (by decide) (by omega) (fun hc1 => ?_) (fun hc1 => ?_)
  · skip
    have hz := z_if1.mp hc1
    have h9 := hrel.2.2.2.1 k (by omega) (by omega)
    simp only [Int.zero_add] at h9
    have h8 := hrr k (by omega) (by omega)
    have h7 := hla k (by omega) (by omega)
    have e64 : f (129 + k) / 64 % 32 = ct.2.1.2.1 k := by omega
    have e2 : f (129 + k) / 2 % 32 = ct.2.1.2.2.2.1 k := by omega
    have e2048 : f (129 + k) / 2048 = ct.2.1.2.2.1 k := by omega
    have em2 : f (129 + k) % 2 = ct.2.1.2.2.2.2 k := by omega
    clear h9
    refine z_iload_n C 2 dX7_reading_19 rfl ?_
    refine z_iconst C 0 dX7_reading_20 ?_
    refine z_iconst C 4 dX7_reading_21 ?_
    refine z_callSi C [] [(hM, .inr (7, [.ref aS, .ref aPa, .int (z_I kn), .ref aSl, .ref aSv, .ref aPd, .int (z_I ln)])), (aS, z_ai cI 712 f)] [.int (z_I w), .int (z_I 0), .int (z_I 4)] [] (c_X7_in l D cI cZ cO w 0 4 (by first | assumption | omega) (by first | assumption | omega) (by first | assumption | omega)) gX7_reading_X7_in rfl zd_X7_in rfl (by decide) rfl (by decide) rfl rfl rfl (Nat.le_of_ble_eq_true rfl) (by decide) dX7_reading_22 ?_
    refine z_if_eq C 37 dX7_reading_25 (by decide) (by omega) (fun hc2 => ?_) (fun hc2 => ?_)
    · skip
      have hz2 := z_if0.mp hc2
      refine z_bipush C (-2) dX7_reading_37 (by decide) ?_
      exact z_iret C hQ rfl (by refine Eq.trans ?_ (if_pos (by omega)).symm; first | (exfalso; omega) | (rw [if_neg (by omega), if_neg (by omega), if_neg (by omega), if_neg (by omega), if_neg (by omega)]; done) | (rcases hw5 with rfl | rfl | rfl | rfl | rfl; (· rw [if_pos rfl, if_pos rfl]); (· rw [if_neg (by decide), if_pos rfl, if_neg (by decide), if_pos rfl]); (· rw [if_neg (by decide), if_neg (by decide), if_pos rfl, if_neg (by decide), if_neg (by decide), if_pos rfl]); (· rw [if_neg (by decide), if_neg (by decide), if_neg (by decide), if_pos rfl, if_neg (by decide), if_neg (by decide), if_neg (by decide), if_pos rfl]; split <;> omega); (· rfl))) dX7_reading_39
    · skip
      have hz2 := z_if1.mp (by omega)
      have hw5 : w = 0 ∨ w = 1 ∨ w = 2 ∨ w = 3 ∨ w = 4 := by omega
      refine z_aload_n C 0 dX7_reading_28 rfl ?_
      refine z_iload_n C 1 dX7_reading_29 rfl ?_
      refine z_iload_n C 2 dX7_reading_30 rfl ?_
      refine z_callVi C [0, 1] [(hM, .inr (7, [.ref aS, .ref aPa, .int (z_I kn), .ref aSl, .ref aSv, .ref aPd, .int (z_I ln)])), (aS, z_ai cI 712 f)] [.int (z_I k), .int (z_I w)] [] (c_X7_ofReading l D cI cZ cO hM aS aPa aSl aSv aPd kn ln f ct k w (by first | assumption | omega) (by first | assumption | omega) (by first | assumption | omega) (by first | assumption | omega) (by first | assumption | omega)) gX7_reading_X7_ofReading rfl zd_X7_ofReading rfl (by decide) rfl rfl rfl (by decide) rfl rfl rfl (Nat.le_of_ble_eq_true rfl) (by decide) dX7_reading_31 ?_
      refine z_goto C 39 dX7_reading_34 (by decide) ?_
      exact z_iret C hQ rfl (by refine Eq.trans ?_ (if_pos (by omega)).symm; first | (exfalso; omega) | (rw [if_neg (by omega), if_neg (by omega), if_neg (by omega), if_neg (by omega), if_neg (by omega)]; done) | (rcases hw5 with rfl | rfl | rfl | rfl | rfl; (· rw [if_pos rfl, if_pos rfl]); (· rw [if_neg (by decide), if_pos rfl, if_neg (by decide), if_pos rfl]); (· rw [if_neg (by decide), if_neg (by decide), if_pos rfl, if_neg (by decide), if_neg (by decide), if_pos rfl]); (· rw [if_neg (by decide), if_neg (by decide), if_neg (by decide), if_pos rfl, if_neg (by decide), if_neg (by decide), if_neg (by decide), if_pos rfl]; split <;> omega); (· rfl))) dX7_reading_39
  · skip
    have hz := z_if0.mp (by omega)
    refine z_iconst C (-1) dX7_reading_17 ?_
    exact z_iret C hQ rfl (by rw [if_neg (by omega)]) dX7_reading_18
theorem zi_X7_seen_X7 : ∀ w ∈ u_ws RX7 TX7 7, w ∈ wsX7_seen := by decide +kernel
theorem zl_X7_seen_7 : Cond.fieldLink RX7 7 "RippleCountsModel" "s" "[I" ∈ wsX7_seen := by decide +kernel
theorem zd_X7_seen : yX7_seen.cls ≠ "java/lang/invoke/MethodHandle" ∧ yX7_seen.cls ≠ "java/lang/invoke/VarHandle" ∧ (parseMethodDescriptor yX7_seen.desc).map (fun d => d.parameters.length) = some 2 := by decide +kernel
set_option maxHeartbeats 4000000 in
set_option maxRecDepth 100000 in
theorem c_X7_seen (l : Launch) (D : va_G) (cI cZ cO : ClassId) (hM aS aPa aSl aSv aPd : Nat) (kn ln : Int) (f : Int → Int) (ct : z_Ct) (k w : Int) (hrel : z_rel ct 0 f) (hok : z_ok ct) (htt : ct.1.1 ≤ 9999) (hk : -2147483648 ≤ k ∧ k < 2147483648) (hww : -2147483648 ≤ w ∧ w < 2147483648) : z_Mi l yX7_seen wsX7_seen 1 22 D (z_T cI cZ cO) [.ref hM, .int (z_I k), .int (z_I w)] ([(hM, .inr (7, [.ref aS, .ref aPa, .int (z_I kn), .ref aSl, .ref aSv, .ref aPd, .int (z_I ln)])), (aS, z_ai cI 712 f)]) ([(hM, .inr (7, [.ref aS, .ref aPa, .int (z_I kn), .ref aSl, .ref aSv, .ref aPd, .int (z_I ln)])), (aS, z_ai cI 712 f)]) (if 0 ≤ k ∧ k < ct.2.2.1.1 then (if w = 0 then ct.2.2.1.2.1 k else if w = 1 then ct.2.2.1.2.2.1 (ct.2.2.1.2.1 k) else if w = 2 then ct.2.2.1.2.2.2.1 (ct.2.2.1.2.1 k) else if w = 3 then ct.2.2.1.2.2.2.2 (ct.2.2.1.2.1 k) else -2) else -1) := by
  refine z_Mi_of (cc := cX7_seen) (nL := 3) (ret := (some .int)) (by decide +kernel) rfl (Nat.le_of_ble_eq_true rfl) ?_
  intro p e s m args below meth c A Q C hQ
  change z_V p l e { frames := 1, cells := 0, slots := 0, locals := 22 } s m args below meth c D A 3 0 0 Q ([(hM, .inr (7, [.ref aS, .ref aPa, .int (z_I kn), .ref aSl, .ref aSv, .ref aPd, .int (z_I ln)])), (aS, z_ai cI 712 f)]) 0 [(0, .ref hM), (1, .int (z_I k)), (2, .int (z_I w))] []
  obtain ⟨hw, hrd, hsg, hho, hck, hlc, hld, hlw, hrl0⟩ := id hok
  obtain ⟨ht0, hst, hsh, hdl, hdu, hdn, hB, htot, hbit, hzero, how⟩ := id hw
  obtain ⟨hrn, hrr, hla⟩ := id hrd
  obtain ⟨hsn, hrk, hfo, hcnt, hinj, hsur⟩ := id hsg
  have hp := z_p2_le (k := ct.1.2.1) (by omega)
  obtain ⟨y0, y1, y2, y3, y4, y5, y6, y7, y8⟩ := hrel.1
  simp only [Int.zero_add] at y1 y2 y3 y4 y5 y6 y7 y8
  refine z_iload_n C 1 dX7_seen_0 rfl ?_
  refine z_iconst C 0 dX7_seen_1 ?_
  refine z_aload_n C 0 dX7_seen_2 rfl ?_
  refine z_get C 0 0 zi_X7_seen_X7 rfl rfl (by decide) zl_X7_seen_7 rfl rfl dX7_seen_3 ?_
  refine z_bipush C 8 dX7_seen_6 (by decide) ?_
  refine z_iald C 1 0 rfl rfl (by decide) (by omega) dX7_seen_8 ?_
  refine z_iconst C 1 dX7_seen_9 ?_
  refine z_isub C dX7_seen_10 ?_
  refine z_callSi C [] [(hM, .inr (7, [.ref aS, .ref aPa, .int (z_I kn), .ref aSl, .ref aSv, .ref aPd, .int (z_I ln)])), (aS, z_ai cI 712 f)] [.int (z_I k), .int (z_I 0), .int (z_I ((f 8) - 1))] [] (c_X7_in l D cI cZ cO k 0 ((f 8) - 1) (by first | assumption | omega) (by first | assumption | omega) (by first | assumption | omega)) gX7_seen_X7_in rfl zd_X7_in rfl (by decide) rfl (by decide) rfl rfl rfl (Nat.le_of_ble_eq_true rfl) (by decide) dX7_seen_11 ?_
  refine z_if_ne C 19 dX7_seen_14 (by decide) (by omega) (fun hc1 => ?_) (fun hc1 => ?_)
  · skip
    have hz := z_if1.mp hc1
    have h9 := hrel.2.2.2.2 k (by omega) (by omega)
    simp only [Int.zero_add] at h9
    refine z_iload_n C 2 dX7_seen_19 rfl ?_
    refine z_iconst C 0 dX7_seen_20 ?_
    refine z_iconst C 3 dX7_seen_21 ?_
    refine z_callSi C [] [(hM, .inr (7, [.ref aS, .ref aPa, .int (z_I kn), .ref aSl, .ref aSv, .ref aPd, .int (z_I ln)])), (aS, z_ai cI 712 f)] [.int (z_I w), .int (z_I 0), .int (z_I 3)] [] (c_X7_in l D cI cZ cO w 0 3 (by first | assumption | omega) (by first | assumption | omega) (by first | assumption | omega)) gX7_seen_X7_in rfl zd_X7_in rfl (by decide) rfl (by decide) rfl rfl rfl (Nat.le_of_ble_eq_true rfl) (by decide) dX7_seen_22 ?_
    refine z_if_eq C 45 dX7_seen_25 (by decide) (by omega) (fun hc2 => ?_) (fun hc2 => ?_)
    · skip
      have hz2 := z_if0.mp hc2
      refine z_bipush C (-2) dX7_seen_45 (by decide) ?_
      exact z_iret C hQ rfl (by rw [if_pos (by omega)]; first | (exfalso; omega) | (rw [if_neg (by omega), if_neg (by omega), if_neg (by omega), if_neg (by omega)]; done) | (rcases hw4 with rfl | rfl | rfl | rfl; (· rw [if_pos (by omega), Int.add_zero]; exact h9.1); (· rw [if_neg (by omega), if_pos (by omega)]; exact h9.2.1); (· rw [if_neg (by omega), if_neg (by omega), if_pos (by omega)]; exact h9.2.2.1); (· rw [if_neg (by omega), if_neg (by omega), if_neg (by omega), if_pos (by omega)]; exact h9.2.2.2))) dX7_seen_47
    · skip
      have hz2 := z_if1.mp (by omega)
      have hw4 : w = 0 ∨ w = 1 ∨ w = 2 ∨ w = 3 := by omega
      refine z_aload_n C 0 dX7_seen_28 rfl ?_
      refine z_get C 0 0 zi_X7_seen_X7 rfl rfl (by decide) zl_X7_seen_7 rfl rfl dX7_seen_29 ?_
      refine z_sipush C 228 dX7_seen_32 (by decide) ?_
      refine z_iconst C 4 dX7_seen_35 ?_
      refine z_iload_n C 1 dX7_seen_36 rfl ?_
      refine z_imul C dX7_seen_37 ?_
      refine z_iadd C dX7_seen_38 ?_
      refine z_iload_n C 2 dX7_seen_39 rfl ?_
      refine z_iadd C dX7_seen_40 ?_
      refine z_iald C 1 0 rfl rfl (by decide) (by omega) dX7_seen_41 ?_
      refine z_goto C 47 dX7_seen_42 (by decide) ?_
      exact z_iret C hQ rfl (by rw [if_pos (by omega)]; first | (exfalso; omega) | (rw [if_neg (by omega), if_neg (by omega), if_neg (by omega), if_neg (by omega)]; done) | (rcases hw4 with rfl | rfl | rfl | rfl; (· rw [if_pos (by omega), Int.add_zero]; exact h9.1); (· rw [if_neg (by omega), if_pos (by omega)]; exact h9.2.1); (· rw [if_neg (by omega), if_neg (by omega), if_pos (by omega)]; exact h9.2.2.1); (· rw [if_neg (by omega), if_neg (by omega), if_neg (by omega), if_pos (by omega)]; exact h9.2.2.2))) dX7_seen_47
  · skip
    have hz := z_if0.mp (by omega)
    refine z_iconst C (-1) dX7_seen_17 ?_
    exact z_iret C hQ rfl (by rw [if_neg (by omega)]) dX7_seen_18
theorem zi_X7_trueReadings_X7 : ∀ w ∈ u_ws RX7 TX7 7, w ∈ wsX7_trueReadings := by decide +kernel
theorem zl_X7_trueReadings_7 : Cond.fieldLink RX7 7 "RippleCountsModel" "s" "[I" ∈ wsX7_trueReadings := by decide +kernel
theorem zd_X7_trueReadings : yX7_trueReadings.cls ≠ "java/lang/invoke/MethodHandle" ∧ yX7_trueReadings.cls ≠ "java/lang/invoke/VarHandle" ∧ (parseMethodDescriptor yX7_trueReadings.desc).map (fun d => d.parameters.length) = some 0 := by decide +kernel
set_option maxHeartbeats 4000000 in
set_option maxRecDepth 100000 in
theorem c_X7_trueReadings (l : Launch) (D : va_G) (cI cZ cO : ClassId) (hM aS aPa aSl aSv aPd : Nat) (kn ln : Int) (f : Int → Int) (ct : z_Ct) (hrel : z_rel ct 0 f) (hok : z_ok ct) (htt : ct.1.1 ≤ 9999) : z_Mi l yX7_trueReadings wsX7_trueReadings 1 25 D (z_T cI cZ cO) [.ref hM] ([(hM, .inr (7, [.ref aS, .ref aPa, .int (z_I kn), .ref aSl, .ref aSv, .ref aPd, .int (z_I ln)])), (aS, z_ai cI 712 f)]) ([(hM, .inr (7, [.ref aS, .ref aPa, .int (z_I kn), .ref aSl, .ref aSv, .ref aPd, .int (z_I ln)])), (aS, z_ai cI 712 f)]) (z_it (fun j a => if ct.2.1.2.1 j = ct.2.1.2.2.2.1 j then a + 1 else a) 0 ct.2.1.1.toNat) := by
  refine z_Mi_of (cc := cX7_trueReadings) (nL := 3) (ret := (some .int)) (by decide +kernel) rfl (Nat.le_of_ble_eq_true rfl) ?_
  intro p e s m args below meth c A Q C hQ
  change z_V p l e { frames := 1, cells := 0, slots := 0, locals := 25 } s m args below meth c D A 3 0 0 Q ([(hM, .inr (7, [.ref aS, .ref aPa, .int (z_I kn), .ref aSl, .ref aSv, .ref aPd, .int (z_I ln)])), (aS, z_ai cI 712 f)]) 0 [(0, .ref hM)] []
  obtain ⟨hw, hrd, hsg, hho, hck, hlc, hld, hlw, hrl0⟩ := id hok
  obtain ⟨ht0, hst, hsh, hdl, hdu, hdn, hB, htot, hbit, hzero, how⟩ := id hw
  obtain ⟨hrn, hrr, hla⟩ := id hrd
  obtain ⟨hsn, hrk, hfo, hcnt, hinj, hsur⟩ := id hsg
  have hp := z_p2_le (k := ct.1.2.1) (by omega)
  obtain ⟨y0, y1, y2, y3, y4, y5, y6, y7, y8⟩ := hrel.1
  simp only [Int.zero_add] at y1 y2 y3 y4 y5 y6 y7 y8
  refine z_iconst C 0 dX7_trueReadings_0 ?_
  refine z_istore_n C [(1, .int (z_I 0)), (0, .ref hM)] dX7_trueReadings_1 (by decide) rfl ?_
  refine z_iconst C 0 dX7_trueReadings_2 ?_
  refine z_istore_n C [(2, .int (z_I 0)), (1, .int (z_I 0)), (0, .ref hM)] dX7_trueReadings_3 (by decide) rfl ?_
  have loop4 : ∀ (zn : Nat) (j : Int) (a : Int), 0 ≤ j ∧ j ≤ ct.2.1.1 → a = z_it (fun j a => a + (if (4 : Int) = 0 then ct.2.1.2.1 j else if (4 : Int) = 1 then ct.2.1.2.2.1 j else if (4 : Int) = 2 then ct.2.1.2.2.2.1 j else if (4 : Int) = 3 then ct.2.1.2.2.2.2 j else if ct.2.1.2.1 j = ct.2.1.2.2.2.1 j then 1 else 0)) 0 j.toNat → (ct.2.1.1 - j) < (zn : Int) → z_V p l e { frames := 1, cells := 0, slots := 0, locals := 25 } s m args below meth c D A 3 0 0 Q [(hM, .inr (7, [.ref aS, .ref aPa, .int (z_I kn), .ref aSl, .ref aSv, .ref aPd, .int (z_I ln)])), (aS, z_ai cI 712 f)] 4 [(2, .int (z_I j)), (1, .int (z_I a)), (0, .ref hM)] [] := by
    intro zn
    induction zn with
    | zero => intro j a hj ha hm4; exact absurd hm4 (by omega)
    | succ zn4 ih4 =>
      intro j a hj ha hm4
      refine z_iload_n C 0 dX7_trueReadings_4 rfl ?_
      refine z_aload_n C 2 dX7_trueReadings_5 rfl ?_
      refine z_get C 0 0 zi_X7_trueReadings_X7 rfl rfl (by decide) zl_X7_trueReadings_7 rfl rfl dX7_trueReadings_6 ?_
      refine z_bipush C 7 dX7_trueReadings_9 (by decide) ?_
      refine z_iald C 1 0 rfl rfl (by decide) (by omega) dX7_trueReadings_11 ?_
      refine z_icmp_ge C 30 dX7_trueReadings_12 (by decide) (by omega) (by omega) (fun hc1 => ?_) (fun hc1 => ?_)
      · skip
        have hjn : j = ct.2.1.1 := by omega
        refine z_iload_n C 1 dX7_trueReadings_30 rfl ?_
        exact z_iret C hQ rfl (by rw [ha, hjn]; exact z_true _) dX7_trueReadings_31
      · skip
        refine z_iload_n C 1 dX7_trueReadings_15 rfl ?_
        refine z_aload_n C 2 dX7_trueReadings_16 rfl ?_
        refine z_iload_n C 0 dX7_trueReadings_17 rfl ?_
        refine z_iconst C 4 dX7_trueReadings_18 ?_
        refine z_callVi C [0, 1] [(hM, .inr (7, [.ref aS, .ref aPa, .int (z_I kn), .ref aSl, .ref aSv, .ref aPd, .int (z_I ln)])), (aS, z_ai cI 712 f)] [.int (z_I j), .int (z_I 4)] [.int (z_I a)] (c_X7_ofReading l D cI cZ cO hM aS aPa aSl aSv aPd kn ln f ct j 4 (by first | assumption | omega) (by first | assumption | omega) (by first | assumption | omega) (by first | assumption | omega) (by first | assumption | omega)) gX7_trueReadings_X7_ofReading rfl zd_X7_ofReading rfl (by decide) rfl rfl rfl (by decide) rfl rfl rfl (Nat.le_of_ble_eq_true rfl) (by decide) dX7_trueReadings_19 ?_
        refine z_iadd C dX7_trueReadings_22 ?_
        refine z_istore_n C [(1, .int (z_I (a + (if 4 = 0 then ct.2.1.2.1 j else if 4 = 1 then ct.2.1.2.2.1 j else if 4 = 2 then ct.2.1.2.2.2.1 j else if 4 = 3 then ct.2.1.2.2.2.2 j else if ct.2.1.2.1 j = ct.2.1.2.2.2.1 j then 1 else 0)))), (2, .int (z_I j)), (0, .ref hM)] dX7_trueReadings_23 (by decide) rfl ?_
        refine z_iinc C 1 [(2, .int (z_I (j + 1))), (1, .int (z_I (a + (if 4 = 0 then ct.2.1.2.1 j else if 4 = 1 then ct.2.1.2.2.1 j else if 4 = 2 then ct.2.1.2.2.2.1 j else if 4 = 3 then ct.2.1.2.2.2.2 j else if ct.2.1.2.1 j = ct.2.1.2.2.2.1 j then 1 else 0)))), (0, .ref hM)] dX7_trueReadings_24 rfl (by decide) rfl ?_
        refine z_goto C 4 dX7_trueReadings_27 (by decide) ?_
        exact ih4 (j + 1) (a + (if 4 = 0 then ct.2.1.2.1 j else if 4 = 1 then ct.2.1.2.2.1 j else if 4 = 2 then ct.2.1.2.2.2.1 j else if 4 = 3 then ct.2.1.2.2.2.2 j else if ct.2.1.2.1 j = ct.2.1.2.2.2.1 j then 1 else 0)) (by first | assumption | omega) (by rw [z_it_next _ _ hj.1, ← ha]) (by omega)
  exact loop4 (ct.2.1.1.toNat + 1) 0 0 (by first | assumption | omega) rfl (by omega)
theorem zi_X7_numbers_X7 : ∀ w ∈ u_ws RX7 TX7 7, w ∈ wsX7_numbers := by decide +kernel
theorem zl_X7_numbers_7 : Cond.fieldLink RX7 7 "RippleCountsModel" "s" "[I" ∈ wsX7_numbers := by decide +kernel
theorem zd_X7_numbers : yX7_numbers.cls ≠ "java/lang/invoke/MethodHandle" ∧ yX7_numbers.cls ≠ "java/lang/invoke/VarHandle" ∧ (parseMethodDescriptor yX7_numbers.desc).map (fun d => d.parameters.length) = some 1 := by decide +kernel
set_option maxHeartbeats 4000000 in
set_option maxRecDepth 100000 in
theorem c_X7_numbers (l : Launch) (D : va_G) (cI cZ cO : ClassId) (hM aS aPa aSl aSv aPd : Nat) (kn ln : Int) (f : Int → Int) (ct : z_Ct) (w : Int) (Xf : Int → Int) (hrel : z_rel ct 0 f) (hok : z_ok ct) (htt : ct.1.1 ≤ 9999) (hw2 : 1 ≤ w ∧ w ≤ 2) (hX : ∀ j : Int, 0 ≤ j → j < ct.2.2.1.1 → f (228 + 4 * j + w) = Xf (ct.2.2.1.2.1 j) ∧ 0 ≤ Xf (ct.2.2.1.2.1 j) ∧ Xf (ct.2.2.1.2.1 j) < 1000000) (hXs : ∀ v : Int, 0 ≤ v → v < 32 → 0 < Xf v → ∃ j : Int, 0 ≤ j ∧ j < ct.2.2.1.1 ∧ ct.2.2.1.2.1 j = v) : z_Mi l yX7_numbers wsX7_numbers 0 0 D (z_T cI cZ cO) [.ref hM, .int (z_I w)] ([(hM, .inr (7, [.ref aS, .ref aPa, .int (z_I kn), .ref aSl, .ref aSv, .ref aPd, .int (z_I ln)])), (aS, z_ai cI 712 f)]) ([(hM, .inr (7, [.ref aS, .ref aPa, .int (z_I kn), .ref aSl, .ref aSv, .ref aPd, .int (z_I ln)])), (aS, z_ai cI 712 f)]) (z_it (fun j a => if 0 < Xf j then z_or a (z_p2 j) else a) 0 32) := by
  refine z_Mi_of (cc := cX7_numbers) (nL := 4) (ret := (some .int)) (by decide +kernel) rfl (Nat.le_of_ble_eq_true rfl) ?_
  intro p e s m args below meth c A Q C hQ
  change z_V p l e { frames := 0, cells := 0, slots := 0, locals := 0 } s m args below meth c D A 4 0 0 Q ([(hM, .inr (7, [.ref aS, .ref aPa, .int (z_I kn), .ref aSl, .ref aSv, .ref aPd, .int (z_I ln)])), (aS, z_ai cI 712 f)]) 0 [(0, .ref hM), (1, .int (z_I w))] []
  obtain ⟨hw, hrd, hsg, hho, hck, hlc, hld, hlw, hrl0⟩ := id hok
  obtain ⟨ht0, hst, hsh, hdl, hdu, hdn, hB, htot, hbit, hzero, how⟩ := id hw
  obtain ⟨hrn, hrr, hla⟩ := id hrd
  obtain ⟨hsn, hrk, hfo, hcnt, hinj, hsur⟩ := id hsg
  have hp := z_p2_le (k := ct.1.2.1) (by omega)
  obtain ⟨y0, y1, y2, y3, y4, y5, y6, y7, y8⟩ := hrel.1
  simp only [Int.zero_add] at y1 y2 y3 y4 y5 y6 y7 y8
  refine z_iconst C 0 dX7_numbers_0 ?_
  refine z_istore_n C [(2, .int (z_I 0)), (0, .ref hM), (1, .int (z_I w))] dX7_numbers_1 (by decide) rfl ?_
  refine z_iconst C 0 dX7_numbers_2 ?_
  refine z_istore_n C [(3, .int (z_I 0)), (2, .int (z_I 0)), (0, .ref hM), (1, .int (z_I w))] dX7_numbers_3 (by decide) rfl ?_
  have loop4 : ∀ (zn : Nat) (j : Int) (a : Int), 0 ≤ j ∧ j ≤ ct.2.2.1.1 → a = z_it (fun j a => z_or a (if 0 < Xf (ct.2.2.1.2.1 j) then z_p2 (ct.2.2.1.2.1 j) else 0)) 0 j.toNat → (ct.2.2.1.1 - j) < (zn : Int) → z_V p l e { frames := 0, cells := 0, slots := 0, locals := 0 } s m args below meth c D A 4 0 0 Q [(hM, .inr (7, [.ref aS, .ref aPa, .int (z_I kn), .ref aSl, .ref aSv, .ref aPd, .int (z_I ln)])), (aS, z_ai cI 712 f)] 4 [(3, .int (z_I j)), (2, .int (z_I a)), (0, .ref hM), (1, .int (z_I w))] [] := by
    intro zn
    induction zn with
    | zero => intro j a hj ha hm4; exact absurd hm4 (by omega)
    | succ zn4 ih4 =>
      intro j a hj ha hm4
      refine z_iload_n C 0 dX7_numbers_4 rfl ?_
      refine z_aload_n C 2 dX7_numbers_5 rfl ?_
      refine z_get C 0 0 zi_X7_numbers_X7 rfl rfl (by decide) zl_X7_numbers_7 rfl rfl dX7_numbers_6 ?_
      refine z_bipush C 8 dX7_numbers_9 (by decide) ?_
      refine z_iald C 1 0 rfl rfl (by decide) (by omega) dX7_numbers_11 ?_
      refine z_icmp_ge C 59 dX7_numbers_12 (by decide) (by omega) (by omega) (fun hc1 => ?_) (fun hc1 => ?_)
      · skip
        have hjn : j = ct.2.2.1.1 := by omega
        refine z_iload_n C 1 dX7_numbers_59 rfl ?_
        exact z_iret C hQ rfl (by rw [ha, hjn]; exact z_setE hsn.1 (fun j j1 j2 => (hrk j j1 j2).1) hXs) dX7_numbers_60
      · skip
        have h9 := hX j (by omega) (by omega)
        have h28 := (hrel.2.2.2.2 j (by omega) (by omega)).1
        simp only [Int.zero_add] at h28
        have hrj := (hrk j (by omega) (by omega)).1
        refine z_iload_n C 1 dX7_numbers_15 rfl ?_
        refine z_aload_n C 2 dX7_numbers_16 rfl ?_
        refine z_get C 0 0 zi_X7_numbers_X7 rfl rfl (by decide) zl_X7_numbers_7 rfl rfl dX7_numbers_17 ?_
        refine z_sipush C 228 dX7_numbers_20 (by decide) ?_
        refine z_iconst C 4 dX7_numbers_23 ?_
        refine z_iload_n C 0 dX7_numbers_24 rfl ?_
        refine z_imul C dX7_numbers_25 ?_
        refine z_iadd C dX7_numbers_26 ?_
        refine z_iload_n C 3 dX7_numbers_27 rfl ?_
        refine z_iadd C dX7_numbers_28 ?_
        refine z_iald C 1 0 rfl rfl (by decide) (by omega) dX7_numbers_29 ?_
        refine z_if_le C 50 dX7_numbers_30 (by decide) (by omega) (fun hc2 => ?_) (fun hc2 => ?_)
        · skip
          have hz : ¬ 0 < Xf (ct.2.2.1.2.1 j) := by omega
          refine z_iconst C 0 dX7_numbers_50 ?_
          refine z_ior C (z_or a 0) dX7_numbers_51 (z_or_eq _ _) ?_
          refine z_istore_n C [(2, .int (z_I (z_or a 0))), (3, .int (z_I j)), (0, .ref hM), (1, .int (z_I w))] dX7_numbers_52 (by decide) rfl ?_
          refine z_iinc C 1 [(3, .int (z_I (j + 1))), (2, .int (z_I (z_or a 0))), (0, .ref hM), (1, .int (z_I w))] dX7_numbers_53 rfl (by decide) rfl ?_
          refine z_goto C 4 dX7_numbers_56 (by decide) ?_
          exact ih4 (j + 1) (z_or a 0) (by first | assumption | omega) (by rw [z_it_next _ _ hj.1, ← ha]; first | (rw [if_pos hz, h28]; done) | (rw [if_neg hz]; done)) (by omega)
        · skip
          have hz : 0 < Xf (ct.2.2.1.2.1 j) := by omega
          refine z_iconst C 1 dX7_numbers_33 ?_
          refine z_aload_n C 2 dX7_numbers_34 rfl ?_
          refine z_get C 0 0 zi_X7_numbers_X7 rfl rfl (by decide) zl_X7_numbers_7 rfl rfl dX7_numbers_35 ?_
          refine z_sipush C 228 dX7_numbers_38 (by decide) ?_
          refine z_iconst C 4 dX7_numbers_41 ?_
          refine z_iload_n C 0 dX7_numbers_42 rfl ?_
          refine z_imul C dX7_numbers_43 ?_
          refine z_iadd C dX7_numbers_44 ?_
          refine z_iald C 1 0 rfl rfl (by decide) (by omega) dX7_numbers_45 ?_
          refine z_ishl C (z_p2 (f (228 + (4 * j)))) dX7_numbers_46 (z_shl1 (by omega)) ?_
          refine z_goto C 51 dX7_numbers_47 (by decide) ?_
          refine z_ior C (z_or a (z_p2 (f (228 + (4 * j))))) dX7_numbers_51 (z_or_eq _ _) ?_
          refine z_istore_n C [(2, .int (z_I (z_or a (z_p2 (f (228 + (4 * j))))))), (3, .int (z_I j)), (0, .ref hM), (1, .int (z_I w))] dX7_numbers_52 (by decide) rfl ?_
          refine z_iinc C 1 [(3, .int (z_I (j + 1))), (2, .int (z_I (z_or a (z_p2 (f (228 + (4 * j))))))), (0, .ref hM), (1, .int (z_I w))] dX7_numbers_53 rfl (by decide) rfl ?_
          refine z_goto C 4 dX7_numbers_56 (by decide) ?_
          exact ih4 (j + 1) (z_or a (z_p2 (f (228 + (4 * j))))) (by first | assumption | omega) (by rw [z_it_next _ _ hj.1, ← ha]; first | (rw [if_pos hz, h28]; done) | (rw [if_neg hz]; done)) (by omega)
  exact loop4 (ct.2.2.1.1.toNat + 1) 0 0 (by first | assumption | omega) rfl (by omega)
theorem zi_X7_count_X7 : ∀ w ∈ u_ws RX7 TX7 7, w ∈ wsX7_count := by decide +kernel
theorem zl_X7_count_109 : Cond.fieldLink RX7 109 "RippleCountsModel" "length" "I" ∈ wsX7_count := by decide +kernel
theorem zl_X7_count_30 : Cond.fieldLink RX7 30 "RippleCountsModel" "known" "I" ∈ wsX7_count := by decide +kernel
theorem zl_X7_count_7 : Cond.fieldLink RX7 7 "RippleCountsModel" "s" "[I" ∈ wsX7_count := by decide +kernel
theorem zd_X7_count : yX7_count.cls ≠ "java/lang/invoke/MethodHandle" ∧ yX7_count.cls ≠ "java/lang/invoke/VarHandle" ∧ (parseMethodDescriptor yX7_count.desc).map (fun d => d.parameters.length) = some 1 := by decide +kernel
set_option maxHeartbeats 4000000 in
set_option maxRecDepth 100000 in
theorem c_X7_count (l : Launch) (D : va_G) (cI cZ cO : ClassId) (hM aS aPa aSl aSv aPd : Nat) (kn ln : Int) (f : Int → Int) (ct : z_Ct) (w : Int) (hrel : z_rel ct 0 f) (hok : z_ok ct) (htt : ct.1.1 ≤ 9999) (hww : -2147483648 ≤ w ∧ w < 2147483648) : z_Mi l yX7_count wsX7_count 3 69 D (z_T cI cZ cO) [.ref hM, .int (z_I w)] ([(hM, .inr (7, [.ref aS, .ref aPa, .int (z_I kn), .ref aSl, .ref aSv, .ref aPd, .int (z_I ln)])), (aS, z_ai cI 712 f)]) ([(hM, .inr (7, [.ref aS, .ref aPa, .int (z_I kn), .ref aSl, .ref aSv, .ref aPd, .int (z_I ln)])), (aS, z_ai cI 712 f)]) (if w = 0 then ct.1.1 else (if w = 1 then ct.1.2.2.1 else (if w = 2 then ct.2.2.2.2.1 else (if w = 3 then ct.1.2.2.2.1 else (if w = 4 then ct.2.1.1 else (if w = 5 then (z_it (fun j a => if ct.2.1.2.1 j = ct.2.1.2.2.2.1 j then a + 1 else a) 0 ct.2.1.1.toNat) else (if w = 6 then (z_it (fun j a => if 0 < ct.2.2.1.2.2.1 j then z_or a (z_p2 j) else a) 0 32) else (if w = 7 then (z_it (fun j a => if 0 < ct.2.2.1.2.2.2.1 j then z_or a (z_p2 j) else a) 0 32) else (if w = 8 then (if ct.2.2.2.2.2.2.1 = -1 then ct.1.1 else ct.1.1 - ct.2.2.2.2.2.2.1 - 1) else (if w = 9 then ct.2.2.2.2.2.2.2 else (if w = 10 then ct.1.2.1 else (if w = 11 then ct.2.2.2.1 else (if w = 12 then ln else (if w = 13 then kn else -2)))))))))))))) := by
  refine z_Mi_of (cc := cX7_count) (nL := 2) (ret := (some .int)) (by decide +kernel) rfl (Nat.le_of_ble_eq_true rfl) ?_
  intro p e s m args below meth c A Q C hQ
  change z_V p l e { frames := 3, cells := 0, slots := 0, locals := 69 } s m args below meth c D A 2 0 0 Q ([(hM, .inr (7, [.ref aS, .ref aPa, .int (z_I kn), .ref aSl, .ref aSv, .ref aPd, .int (z_I ln)])), (aS, z_ai cI 712 f)]) 0 [(0, .ref hM), (1, .int (z_I w))] []
  obtain ⟨hw, hrd, hsg, hho, hck, hlc, hld, hlw, hrl0⟩ := id hok
  obtain ⟨ht0, hst, hsh, hdl, hdu, hdn, hB, htot, hbit, hzero, how⟩ := id hw
  obtain ⟨hrn, hrr, hla⟩ := id hrd
  obtain ⟨hsn, hrk, hfo, hcnt, hinj, hsur⟩ := id hsg
  have hp := z_p2_le (k := ct.1.2.1) (by omega)
  obtain ⟨y0, y1, y2, y3, y4, y5, y6, y7, y8⟩ := hrel.1
  simp only [Int.zero_add] at y1 y2 y3 y4 y5 y6 y7 y8
  have h01 := z_out01 hrel
  simp only [Int.zero_add] at h01
  refine z_iload_n C 1 dX7_count_0 rfl ?_
  by_cases hc1 : w = 0
  · skip
    refine z_tabI C 72 0 dX7_count_1 hc1 (by decide) rfl (by decide) ?_
    refine z_aload_n C 0 dX7_count_72 rfl ?_
    refine z_get C 0 0 zi_X7_count_X7 rfl rfl (by decide) zl_X7_count_7 rfl rfl dX7_count_73 ?_
    refine z_iconst C 2 dX7_count_76 ?_
    refine z_iald C 1 0 rfl rfl (by decide) (by omega) dX7_count_77 ?_
    exact z_iret C hQ rfl (by rw [if_pos (by omega)]; exact y2) dX7_count_78
  by_cases hc2 : w = 1
  · skip
    refine z_tabI C 79 1 dX7_count_1 hc2 (by decide) rfl (by decide) ?_
    refine z_aload_n C 0 dX7_count_79 rfl ?_
    refine z_iconst C 0 dX7_count_80 ?_
    refine z_callVi C [0, 1] [(hM, .inr (7, [.ref aS, .ref aPa, .int (z_I kn), .ref aSl, .ref aSv, .ref aPd, .int (z_I ln)])), (aS, z_ai cI 712 f)] [.int (z_I 0)] [] (c_X7_shows l D cI cZ cO hM aS aPa aSl aSv aPd kn ln f 0 (by first | assumption | omega) (by omega) (z_out01 hrel)) gX7_count_X7_shows rfl zd_X7_shows rfl (by decide) rfl rfl rfl (by decide) rfl rfl rfl (Nat.le_of_ble_eq_true rfl) (by decide) dX7_count_81 ?_
    exact z_iret C hQ rfl (by rw [if_neg (by omega), if_pos (by omega)]; exact z_shows hrel hst hsh) dX7_count_84
  by_cases hc3 : w = 2
  · skip
    refine z_tabI C 85 2 dX7_count_1 hc3 (by decide) rfl (by decide) ?_
    refine z_aload_n C 0 dX7_count_85 rfl ?_
    refine z_get C 0 0 zi_X7_count_X7 rfl rfl (by decide) zl_X7_count_7 rfl rfl dX7_count_86 ?_
    refine z_iconst C 3 dX7_count_89 ?_
    refine z_iald C 1 0 rfl rfl (by decide) (by omega) dX7_count_90 ?_
    exact z_iret C hQ rfl (by rw [if_neg (by omega), if_neg (by omega), if_pos (by omega)]; exact y3) dX7_count_91
  by_cases hc4 : w = 3
  · skip
    refine z_tabI C 92 3 dX7_count_1 hc4 (by decide) rfl (by decide) ?_
    refine z_aload_n C 0 dX7_count_92 rfl ?_
    refine z_iconst C 0 dX7_count_93 ?_
    refine z_callVi C [0, 1] [(hM, .inr (7, [.ref aS, .ref aPa, .int (z_I kn), .ref aSl, .ref aSv, .ref aPd, .int (z_I ln)])), (aS, z_ai cI 712 f)] [.int (z_I 0)] [] (c_X7_allOnWay l D cI cZ cO hM aS aPa aSl aSv aPd kn ln f 0 (by first | assumption | omega) (by omega)) gX7_count_X7_allOnWay rfl zd_X7_allOnWay rfl (by decide) rfl rfl rfl (by decide) rfl rfl rfl (Nat.le_of_ble_eq_true rfl) (by decide) dX7_count_94 ?_
    exact z_iret C hQ rfl (by rw [if_neg (by omega), if_neg (by omega), if_neg (by omega), if_pos (by omega), how]; exact z_allOn (r := (0, 0, 0, (fun _ => 0), ct.1.2.2.2.2.2.2)) hrel ht0 hst hzero) dX7_count_97
  by_cases hc5 : w = 4
  · skip
    refine z_tabI C 98 4 dX7_count_1 hc5 (by decide) rfl (by decide) ?_
    refine z_aload_n C 0 dX7_count_98 rfl ?_
    refine z_get C 0 0 zi_X7_count_X7 rfl rfl (by decide) zl_X7_count_7 rfl rfl dX7_count_99 ?_
    refine z_bipush C 7 dX7_count_102 (by decide) ?_
    refine z_iald C 1 0 rfl rfl (by decide) (by omega) dX7_count_104 ?_
    exact z_iret C hQ rfl (by rw [if_neg (by omega), if_neg (by omega), if_neg (by omega), if_neg (by omega), if_pos (by omega)]; exact y7) dX7_count_105
  by_cases hc6 : w = 5
  · skip
    refine z_tabI C 106 5 dX7_count_1 hc6 (by decide) rfl (by decide) ?_
    refine z_aload_n C 0 dX7_count_106 rfl ?_
    refine z_callVi C [0, 1] [(hM, .inr (7, [.ref aS, .ref aPa, .int (z_I kn), .ref aSl, .ref aSv, .ref aPd, .int (z_I ln)])), (aS, z_ai cI 712 f)] [] [] (c_X7_trueReadings l D cI cZ cO hM aS aPa aSl aSv aPd kn ln f ct (by first | assumption | omega) (by first | assumption | omega) (by first | assumption | omega)) gX7_count_X7_trueReadings rfl zd_X7_trueReadings rfl (by decide) rfl rfl rfl (by decide) rfl rfl rfl (Nat.le_of_ble_eq_true rfl) (by decide) dX7_count_107 ?_
    exact z_iret C hQ rfl (by rw [if_neg (by omega), if_neg (by omega), if_neg (by omega), if_neg (by omega), if_neg (by omega), if_pos (by omega)]) dX7_count_110
  by_cases hc7 : w = 6
  · skip
    refine z_tabI C 111 6 dX7_count_1 hc7 (by decide) rfl (by decide) ?_
    refine z_aload_n C 0 dX7_count_111 rfl ?_
    refine z_iload_n C 1 dX7_count_112 rfl ?_
    refine z_iconst C 5 dX7_count_113 ?_
    refine z_isub C dX7_count_114 ?_
    refine z_callVi C [0, 1] [(hM, .inr (7, [.ref aS, .ref aPa, .int (z_I kn), .ref aSl, .ref aSv, .ref aPd, .int (z_I ln)])), (aS, z_ai cI 712 f)] [.int (z_I (w - 5))] [] (c_X7_numbers l D cI cZ cO hM aS aPa aSl aSv aPd kn ln f ct (w - 5) (if w = 6 then ct.2.2.1.2.2.1 else ct.2.2.1.2.2.2.1) (by first | assumption | omega) (by first | assumption | omega) (by first | assumption | omega) (by first | assumption | omega) (fun j j1 j2 => by have h9 := hrel.2.2.2.2 j j1 j2; simp only [Int.zero_add] at h9; have h8 := hfo (ct.2.2.1.2.1 j) (hrk j j1 j2).1.1 (hrk j j1 j2).1.2; first | (rw [if_pos (show w = 6 by omega), show w - 5 = 1 by omega]; exact ⟨h9.2.1, by omega, by omega⟩) | (rw [if_neg (show ¬ w = 6 by omega), show w - 5 = 2 by omega]; exact ⟨h9.2.2.1, by omega, by omega⟩)) (fun v v1 v2 v3 => by have h8 := hfo v v1 v2; refine hsur v v1 v2 ?_; first | (rw [if_pos (show w = 6 by omega)] at v3; exact v3) | (rw [if_neg (show ¬ w = 6 by omega)] at v3; omega))) gX7_count_X7_numbers rfl zd_X7_numbers rfl (by decide) rfl rfl rfl (by decide) rfl rfl rfl (Nat.le_of_ble_eq_true rfl) (by decide) dX7_count_115 ?_
    exact z_iret C hQ rfl (by first | (rw [if_pos (show w = 6 by omega), if_neg (by omega), if_neg (by omega), if_neg (by omega), if_neg (by omega), if_neg (by omega), if_neg (by omega), if_pos (by omega)]; done) | (rw [if_neg (show ¬ w = 6 by omega), if_neg (by omega), if_neg (by omega), if_neg (by omega), if_neg (by omega), if_neg (by omega), if_neg (by omega), if_neg (by omega), if_pos (by omega)]; done)) dX7_count_118
  by_cases hc8 : w = 7
  · skip
    refine z_tabI C 111 7 dX7_count_1 hc8 (by decide) rfl (by decide) ?_
    refine z_aload_n C 0 dX7_count_111 rfl ?_
    refine z_iload_n C 1 dX7_count_112 rfl ?_
    refine z_iconst C 5 dX7_count_113 ?_
    refine z_isub C dX7_count_114 ?_
    refine z_callVi C [0, 1] [(hM, .inr (7, [.ref aS, .ref aPa, .int (z_I kn), .ref aSl, .ref aSv, .ref aPd, .int (z_I ln)])), (aS, z_ai cI 712 f)] [.int (z_I (w - 5))] [] (c_X7_numbers l D cI cZ cO hM aS aPa aSl aSv aPd kn ln f ct (w - 5) (if w = 6 then ct.2.2.1.2.2.1 else ct.2.2.1.2.2.2.1) (by first | assumption | omega) (by first | assumption | omega) (by first | assumption | omega) (by first | assumption | omega) (fun j j1 j2 => by have h9 := hrel.2.2.2.2 j j1 j2; simp only [Int.zero_add] at h9; have h8 := hfo (ct.2.2.1.2.1 j) (hrk j j1 j2).1.1 (hrk j j1 j2).1.2; first | (rw [if_pos (show w = 6 by omega), show w - 5 = 1 by omega]; exact ⟨h9.2.1, by omega, by omega⟩) | (rw [if_neg (show ¬ w = 6 by omega), show w - 5 = 2 by omega]; exact ⟨h9.2.2.1, by omega, by omega⟩)) (fun v v1 v2 v3 => by have h8 := hfo v v1 v2; refine hsur v v1 v2 ?_; first | (rw [if_pos (show w = 6 by omega)] at v3; exact v3) | (rw [if_neg (show ¬ w = 6 by omega)] at v3; omega))) gX7_count_X7_numbers rfl zd_X7_numbers rfl (by decide) rfl rfl rfl (by decide) rfl rfl rfl (Nat.le_of_ble_eq_true rfl) (by decide) dX7_count_115 ?_
    exact z_iret C hQ rfl (by first | (rw [if_pos (show w = 6 by omega), if_neg (by omega), if_neg (by omega), if_neg (by omega), if_neg (by omega), if_neg (by omega), if_neg (by omega), if_pos (by omega)]; done) | (rw [if_neg (show ¬ w = 6 by omega), if_neg (by omega), if_neg (by omega), if_neg (by omega), if_neg (by omega), if_neg (by omega), if_neg (by omega), if_neg (by omega), if_pos (by omega)]; done)) dX7_count_118
  by_cases hc9 : w = 8
  · skip
    refine z_tabI C 119 8 dX7_count_1 hc9 (by decide) rfl (by decide) ?_
    refine z_aload_n C 0 dX7_count_119 rfl ?_
    refine z_get C 0 0 zi_X7_count_X7 rfl rfl (by decide) zl_X7_count_7 rfl rfl dX7_count_120 ?_
    refine z_iconst C 5 dX7_count_123 ?_
    refine z_iald C 1 0 rfl rfl (by decide) (by omega) dX7_count_124 ?_
    refine z_if_ge C 137 dX7_count_125 (by decide) (by omega) (fun hc10 => ?_) (fun hc10 => ?_)
    · skip
      refine z_aload_n C 0 dX7_count_137 rfl ?_
      refine z_get C 0 0 zi_X7_count_X7 rfl rfl (by decide) zl_X7_count_7 rfl rfl dX7_count_138 ?_
      refine z_iconst C 2 dX7_count_141 ?_
      refine z_iald C 1 0 rfl rfl (by decide) (by omega) dX7_count_142 ?_
      refine z_aload_n C 0 dX7_count_143 rfl ?_
      refine z_get C 0 0 zi_X7_count_X7 rfl rfl (by decide) zl_X7_count_7 rfl rfl dX7_count_144 ?_
      refine z_iconst C 5 dX7_count_147 ?_
      refine z_iald C 1 0 rfl rfl (by decide) (by omega) dX7_count_148 ?_
      refine z_isub C dX7_count_149 ?_
      refine z_iconst C 1 dX7_count_150 ?_
      refine z_isub C dX7_count_151 ?_
      exact z_iret C hQ rfl (by rw [if_neg (by omega), if_neg (by omega), if_neg (by omega), if_neg (by omega), if_neg (by omega), if_neg (by omega), if_neg (by omega), if_neg (by omega), if_pos (by omega)]; (repeat' split) <;> omega) dX7_count_152
    · skip
      refine z_aload_n C 0 dX7_count_128 rfl ?_
      refine z_get C 0 0 zi_X7_count_X7 rfl rfl (by decide) zl_X7_count_7 rfl rfl dX7_count_129 ?_
      refine z_iconst C 2 dX7_count_132 ?_
      refine z_iald C 1 0 rfl rfl (by decide) (by omega) dX7_count_133 ?_
      refine z_goto C 152 dX7_count_134 (by decide) ?_
      exact z_iret C hQ rfl (by rw [if_neg (by omega), if_neg (by omega), if_neg (by omega), if_neg (by omega), if_neg (by omega), if_neg (by omega), if_neg (by omega), if_neg (by omega), if_pos (by omega)]; (repeat' split) <;> omega) dX7_count_152
  by_cases hc11 : w = 9
  · skip
    refine z_tabI C 153 9 dX7_count_1 hc11 (by decide) rfl (by decide) ?_
    refine z_aload_n C 0 dX7_count_153 rfl ?_
    refine z_get C 0 0 zi_X7_count_X7 rfl rfl (by decide) zl_X7_count_7 rfl rfl dX7_count_154 ?_
    refine z_bipush C 6 dX7_count_157 (by decide) ?_
    refine z_iald C 1 0 rfl rfl (by decide) (by omega) dX7_count_159 ?_
    exact z_iret C hQ rfl (by rw [if_neg (by omega), if_neg (by omega), if_neg (by omega), if_neg (by omega), if_neg (by omega), if_neg (by omega), if_neg (by omega), if_neg (by omega), if_neg (by omega), if_pos (by omega)]; exact y6) dX7_count_160
  by_cases hc12 : w = 10
  · skip
    refine z_tabI C 161 10 dX7_count_1 hc12 (by decide) rfl (by decide) ?_
    refine z_aload_n C 0 dX7_count_161 rfl ?_
    refine z_get C 0 0 zi_X7_count_X7 rfl rfl (by decide) zl_X7_count_7 rfl rfl dX7_count_162 ?_
    refine z_iconst C 0 dX7_count_165 ?_
    refine z_iload_n C 1 dX7_count_166 rfl ?_
    refine z_iadd C dX7_count_167 ?_
    refine z_bipush C 10 dX7_count_168 (by decide) ?_
    refine z_isub C dX7_count_170 ?_
    refine z_iald C 1 0 rfl rfl (by decide) (by omega) dX7_count_171 ?_
    exact z_iret C hQ rfl (by first | (rw [if_neg (by omega), if_neg (by omega), if_neg (by omega), if_neg (by omega), if_neg (by omega), if_neg (by omega), if_neg (by omega), if_neg (by omega), if_neg (by omega), if_neg (by omega), if_pos (by omega), show 0 + w - 10 = 0 by omega]; exact y0) | (rw [if_neg (by omega), if_neg (by omega), if_neg (by omega), if_neg (by omega), if_neg (by omega), if_neg (by omega), if_neg (by omega), if_neg (by omega), if_neg (by omega), if_neg (by omega), if_neg (by omega), if_pos (by omega), show 0 + w - 10 = 1 by omega]; exact y1)) dX7_count_172
  by_cases hc13 : w = 11
  · skip
    refine z_tabI C 161 11 dX7_count_1 hc13 (by decide) rfl (by decide) ?_
    refine z_aload_n C 0 dX7_count_161 rfl ?_
    refine z_get C 0 0 zi_X7_count_X7 rfl rfl (by decide) zl_X7_count_7 rfl rfl dX7_count_162 ?_
    refine z_iconst C 0 dX7_count_165 ?_
    refine z_iload_n C 1 dX7_count_166 rfl ?_
    refine z_iadd C dX7_count_167 ?_
    refine z_bipush C 10 dX7_count_168 (by decide) ?_
    refine z_isub C dX7_count_170 ?_
    refine z_iald C 1 0 rfl rfl (by decide) (by omega) dX7_count_171 ?_
    exact z_iret C hQ rfl (by first | (rw [if_neg (by omega), if_neg (by omega), if_neg (by omega), if_neg (by omega), if_neg (by omega), if_neg (by omega), if_neg (by omega), if_neg (by omega), if_neg (by omega), if_neg (by omega), if_pos (by omega), show 0 + w - 10 = 0 by omega]; exact y0) | (rw [if_neg (by omega), if_neg (by omega), if_neg (by omega), if_neg (by omega), if_neg (by omega), if_neg (by omega), if_neg (by omega), if_neg (by omega), if_neg (by omega), if_neg (by omega), if_neg (by omega), if_pos (by omega), show 0 + w - 10 = 1 by omega]; exact y1)) dX7_count_172
  by_cases hc14 : w = 12
  · skip
    refine z_tabI C 173 12 dX7_count_1 hc14 (by decide) rfl (by decide) ?_
    refine z_aload_n C 0 dX7_count_173 rfl ?_
    refine z_get C 0 6 zi_X7_count_X7 rfl rfl (by decide) zl_X7_count_109 rfl rfl dX7_count_174 ?_
    exact z_iret C hQ rfl (by rw [if_neg (by omega), if_neg (by omega), if_neg (by omega), if_neg (by omega), if_neg (by omega), if_neg (by omega), if_neg (by omega), if_neg (by omega), if_neg (by omega), if_neg (by omega), if_neg (by omega), if_neg (by omega), if_pos (by omega)]) dX7_count_177
  by_cases hc15 : w = 13
  · skip
    refine z_tabI C 178 13 dX7_count_1 hc15 (by decide) rfl (by decide) ?_
    refine z_aload_n C 0 dX7_count_178 rfl ?_
    refine z_get C 0 2 zi_X7_count_X7 rfl rfl (by decide) zl_X7_count_30 rfl rfl dX7_count_179 ?_
    exact z_iret C hQ rfl (by rw [if_neg (by omega), if_neg (by omega), if_neg (by omega), if_neg (by omega), if_neg (by omega), if_neg (by omega), if_neg (by omega), if_neg (by omega), if_neg (by omega), if_neg (by omega), if_neg (by omega), if_neg (by omega), if_neg (by omega), if_pos (by omega)]) dX7_count_182
  refine z_tabO C 183 dX7_count_1 (by omega) (by omega) (by decide) ?_
  refine z_bipush C (-2) dX7_count_183 (by decide) ?_
  exact z_iret C hQ rfl (by rw [if_neg (by omega), if_neg (by omega), if_neg (by omega), if_neg (by omega), if_neg (by omega), if_neg (by omega), if_neg (by omega), if_neg (by omega), if_neg (by omega), if_neg (by omega), if_neg (by omega), if_neg (by omega), if_neg (by omega), if_neg (by omega)]) dX7_count_185
theorem zi_X7_undo_X7 : ∀ w ∈ u_ws RX7 TX7 7, w ∈ wsX7_undo := by decide +kernel
theorem zl_X7_undo_13 : Cond.fieldLink RX7 13 "RippleCountsModel" "past" "[I" ∈ wsX7_undo := by decide +kernel
theorem zl_X7_undo_30 : Cond.fieldLink RX7 30 "RippleCountsModel" "known" "I" ∈ wsX7_undo := by decide +kernel
theorem zl_X7_undo_7 : Cond.fieldLink RX7 7 "RippleCountsModel" "s" "[I" ∈ wsX7_undo := by decide +kernel
theorem zd_X7_undo : yX7_undo.cls ≠ "java/lang/invoke/MethodHandle" ∧ yX7_undo.cls ≠ "java/lang/invoke/VarHandle" ∧ (parseMethodDescriptor yX7_undo.desc).map (fun d => d.parameters.length) = some 0 := by decide +kernel
set_option maxHeartbeats 4000000 in
set_option maxRecDepth 100000 in
theorem c_X7_undo (l : Launch) (D : va_G) (cI cZ cO : ClassId) (hM aS aPa aSl aSv aPd : Nat) (kn ln : Int) (f : Int → Int) (pf : Int → Int) (ct : z_Ct) (kp od : Int) (hr : Int → z_Ct) (hrel : z_rel ct 0 f) (hok : z_ok ct) (htt : ct.1.1 ≤ 9999) (hmh : z_mh kp od hr kn pf) (hkp : 0 ≤ kp ∧ kp ≤ 6) (hod : 0 ≤ od ∧ od < 7) (hhr : ∀ j : Int, 0 ≤ j → j < 7 → z_ok (hr j)) : z_Ei ((Int → Int) × Int) l yX7_undo wsX7_undo 0 0 D (z_T cI cZ cO) [.ref hM] ([(hM, .inr (7, [.ref aS, .ref aPa, .int (z_I kn), .ref aSl, .ref aSv, .ref aPd, .int (z_I ln)])), (aS, z_ai cI 712 f), (aPa, z_ai cI 2136 pf)]) (fun u => [(hM, .inr (7, [.ref aS, .ref aPa, .int (z_I u.2), .ref aSl, .ref aSv, .ref aPd, .int (z_I ln)])), (aS, z_ai cI 712 u.1), (aPa, z_ai cI 2136 pf)]) (fun ri u => ri = (if kp = 0 then -5 else kp - 1) ∧ z_rel (if kp = 0 then ct else hr ((od + (kp - 1)) % 7)) 0 u.1 ∧ z_mh (if kp = 0 then 0 else kp - 1) od hr u.2 pf) := by
  refine z_Ei_of (cc := cX7_undo) (nL := 2) (ret := (some .int)) (by decide +kernel) rfl (Nat.le_of_ble_eq_true rfl) ?_
  intro p e s m args below meth c A Q C hQ
  change z_V p l e { frames := 0, cells := 0, slots := 0, locals := 0 } s m args below meth c D A 2 0 0 Q ([(hM, .inr (7, [.ref aS, .ref aPa, .int (z_I kn), .ref aSl, .ref aSv, .ref aPd, .int (z_I ln)])), (aS, z_ai cI 712 f), (aPa, z_ai cI 2136 pf)]) 0 [(0, .ref hM)] []
  obtain ⟨hw, hrd, hsg, hho, hck, hlc, hld, hlw, hrl0⟩ := id hok
  obtain ⟨ht0, hst, hsh, hdl, hdu, hdn, hB, htot, hbit, hzero, how⟩ := id hw
  obtain ⟨hrn, hrr, hla⟩ := id hrd
  obtain ⟨hsn, hrk, hfo, hcnt, hinj, hsur⟩ := id hsg
  have hp := z_p2_le (k := ct.1.2.1) (by omega)
  obtain ⟨y0, y1, y2, y3, y4, y5, y6, y7, y8⟩ := hrel.1
  simp only [Int.zero_add] at y1 y2 y3 y4 y5 y6 y7 y8
  have hkn := hmh.1
  refine z_aload_n C 0 dX7_undo_0 rfl ?_
  refine z_get C 0 2 zi_X7_undo_X7 rfl rfl (by decide) zl_X7_undo_30 rfl rfl dX7_undo_1 ?_
  refine z_if_ne C 10 dX7_undo_4 (by decide) (by omega) (fun hc1 => ?_) (fun hc1 => ?_)
  · skip
    have hk0 : ¬ kp = 0 := by omega
    refine z_aload_n C 0 dX7_undo_10 rfl ?_
    refine z_dup C dX7_undo_11 rfl ?_
    refine z_get C 0 2 zi_X7_undo_X7 rfl rfl (by decide) zl_X7_undo_30 rfl rfl dX7_undo_12 ?_
    refine z_iconst C 1 dX7_undo_15 ?_
    refine z_isub C dX7_undo_16 ?_
    refine z_put C 0 2 ([(hM, .inr (7, [.ref aS, .ref aPa, .int (z_I (kn - 1)), .ref aSl, .ref aSv, .ref aPd, .int (z_I ln)])), (aS, z_ai cI 712 f), (aPa, z_ai cI 2136 pf)]) zi_X7_undo_X7 tyX7_ok nmX7 rfl rfl (by decide) zl_X7_undo_30 rfl rfl rfl rfl (Nat.le_of_ble_eq_true rfl) rfl dX7_undo_17 ?_
    refine z_iconst C 0 dX7_undo_20 ?_
    refine z_istore_n C [(1, .int (z_I 0)), (0, .ref hM)] dX7_undo_21 (by decide) rfl ?_
    have loop22 : ∀ (zn : Nat) (k : Int) (g : Int → Int), 0 ≤ k ∧ k ≤ 356 → (∀ j : Int, g j = if 0 ≤ j ∧ j < k then pf (356 * (kn - 1) + j) else f j) → (356 - k) < (zn : Int) → z_V p l e { frames := 0, cells := 0, slots := 0, locals := 0 } s m args below meth c D A 2 0 0 Q [(hM, .inr (7, [.ref aS, .ref aPa, .int (z_I (kn - 1)), .ref aSl, .ref aSv, .ref aPd, .int (z_I ln)])), (aS, z_ai cI 712 g), (aPa, z_ai cI 2136 pf)] 22 [(1, .int (z_I k)), (0, .ref hM)] [] := by
      intro zn
      induction zn with
      | zero => intro k g hk hg hm22; exact absurd hm22 (by omega)
      | succ zn22 ih22 =>
        intro k g hk hg hm22
        refine z_iload_n C 0 dX7_undo_22 rfl ?_
        refine z_sipush C 356 dX7_undo_23 (by decide) ?_
        refine z_icmp_ge C 56 dX7_undo_26 (by decide) (by omega) (by omega) (fun hc2 => ?_) (fun hc2 => ?_)
        · skip
          have hk9 : k = 356 := by omega
          have hun := z_mh_undo (c := ct) hmh (by omega) hhr (g := g) (fun j j1 j2 => by rw [hg j, if_pos (by omega)])
          refine z_aload_n C 1 dX7_undo_56 rfl ?_
          refine z_get C 0 2 zi_X7_undo_X7 rfl rfl (by decide) zl_X7_undo_30 rfl rfl dX7_undo_57 ?_
          exact z_irete C hQ (g, kn - 1) rfl ⟨by rw [if_neg hk0]; omega, by rw [if_neg hk0]; exact hun.1, by rw [if_neg hk0]; exact hun.2⟩ dX7_undo_60
        · skip
          refine z_aload_n C 1 dX7_undo_29 rfl ?_
          refine z_get C 0 0 zi_X7_undo_X7 rfl rfl (by decide) zl_X7_undo_7 rfl rfl dX7_undo_30 ?_
          refine z_iload_n C 0 dX7_undo_33 rfl ?_
          refine z_aload_n C 1 dX7_undo_34 rfl ?_
          refine z_get C 0 1 zi_X7_undo_X7 rfl rfl (by decide) zl_X7_undo_13 rfl rfl dX7_undo_35 ?_
          refine z_sipush C 356 dX7_undo_38 (by decide) ?_
          refine z_aload_n C 1 dX7_undo_41 rfl ?_
          refine z_get C 0 2 zi_X7_undo_X7 rfl rfl (by decide) zl_X7_undo_30 rfl rfl dX7_undo_42 ?_
          refine z_imul C dX7_undo_45 ?_
          refine z_iload_n C 0 dX7_undo_46 rfl ?_
          refine z_iadd C dX7_undo_47 ?_
          refine z_iald C 2 0 rfl rfl (by decide) (by omega) dX7_undo_48 ?_
          refine z_iast C 1 0 ([(hM, .inr (7, [.ref aS, .ref aPa, .int (z_I (kn - 1)), .ref aSl, .ref aSv, .ref aPd, .int (z_I ln)])), (aS, z_ai cI 712 (z_u g k (pf ((356 * (kn - 1)) + k)))), (aPa, z_ai cI 2136 pf)]) rfl rfl (by decide) (by omega) rfl dX7_undo_49 ?_
          refine z_iinc C 0 [(1, .int (z_I (k + 1))), (0, .ref hM)] dX7_undo_50 rfl (by decide) rfl ?_
          refine z_goto C 22 dX7_undo_53 (by decide) ?_
          exact ih22 (k + 1) (z_u g k (pf ((356 * (kn - 1)) + k))) (by first | assumption | omega) (fun j => by by_cases h3 : j = k; (· rw [h3, z_u_same, if_pos (by omega)]); (· rw [z_u_ne h3, hg j]; by_cases h4 : 0 ≤ j ∧ j < k; (· rw [if_pos h4, if_pos (by omega)]); (· rw [if_neg h4, if_neg (by omega)]))) (by omega)
    exact loop22 357 0 f (by first | assumption | omega) (fun j => by rw [if_neg (by omega)]) (by omega)
  · skip
    have hk0 : kp = 0 := by omega
    refine z_bipush C (-5) dX7_undo_7 (by decide) ?_
    exact z_irete C hQ (f, kn) rfl ⟨by rw [if_pos hk0], by rw [if_pos hk0]; exact hrel, by rw [if_pos hk0]; rw [hk0] at hmh; exact hmh⟩ dX7_undo_9
theorem zi_X7_save_X7 : ∀ w ∈ u_ws RX7 TX7 7, w ∈ wsX7_save := by decide +kernel
theorem zl_X7_save_16 : Cond.fieldLink RX7 16 "RippleCountsModel" "slots" "[I" ∈ wsX7_save := by decide +kernel
theorem zl_X7_save_19 : Cond.fieldLink RX7 19 "RippleCountsModel" "isSaved" "[Z" ∈ wsX7_save := by decide +kernel
theorem zl_X7_save_7 : Cond.fieldLink RX7 7 "RippleCountsModel" "s" "[I" ∈ wsX7_save := by decide +kernel
theorem zd_X7_save : yX7_save.cls ≠ "java/lang/invoke/MethodHandle" ∧ yX7_save.cls ≠ "java/lang/invoke/VarHandle" ∧ (parseMethodDescriptor yX7_save.desc).map (fun d => d.parameters.length) = some 1 := by decide +kernel
set_option maxHeartbeats 4000000 in
set_option maxRecDepth 100000 in
theorem c_X7_save (l : Launch) (D : va_G) (cI cZ cO : ClassId) (hM aS aPa aSl aSv aPd : Nat) (kn ln : Int) (f : Int → Int) (ct : z_Ct) (sl : Int → z_Ct) (us slf svf : Int → Int) (k : Int) (hrel : z_rel ct 0 f) (hok : z_ok ct) (htt : ct.1.1 ≤ 9999) (hmv : z_mv sl us slf svf) (hslk : ∀ j : Int, 0 ≤ j → j < 2 → z_ok (sl j)) (hk : -2147483648 ≤ k ∧ k < 2147483648) : z_Ei ((Int → Int) × (Int → Int)) l yX7_save wsX7_save 1 22 D (z_T cI cZ cO) [.ref hM, .int (z_I k)] ([(hM, .inr (7, [.ref aS, .ref aPa, .int (z_I kn), .ref aSl, .ref aSv, .ref aPd, .int (z_I ln)])), (aS, z_ai cI 712 f), (aSl, z_ai cI 712 slf), (aSv, z_ai cZ 2 svf)]) (fun u => [(hM, .inr (7, [.ref aS, .ref aPa, .int (z_I kn), .ref aSl, .ref aSv, .ref aPd, .int (z_I ln)])), (aS, z_ai cI 712 f), (aSl, z_ai cI 712 u.1), (aSv, z_ai cZ 2 u.2)]) (fun ri u => ri = (if 0 ≤ k ∧ k < 2 then ct.2.2.2.2.1 else -2) ∧ z_mv (if 0 ≤ k ∧ k < 2 then z_uc sl k ct else sl) (if 0 ≤ k ∧ k < 2 then z_u us k 1 else us) u.1 u.2) := by
  refine z_Ei_of (cc := cX7_save) (nL := 3) (ret := (some .int)) (by decide +kernel) rfl (Nat.le_of_ble_eq_true rfl) ?_
  intro p e s m args below meth c A Q C hQ
  change z_V p l e { frames := 1, cells := 0, slots := 0, locals := 22 } s m args below meth c D A 3 0 0 Q ([(hM, .inr (7, [.ref aS, .ref aPa, .int (z_I kn), .ref aSl, .ref aSv, .ref aPd, .int (z_I ln)])), (aS, z_ai cI 712 f), (aSl, z_ai cI 712 slf), (aSv, z_ai cZ 2 svf)]) 0 [(0, .ref hM), (1, .int (z_I k))] []
  obtain ⟨hw, hrd, hsg, hho, hck, hlc, hld, hlw, hrl0⟩ := id hok
  obtain ⟨ht0, hst, hsh, hdl, hdu, hdn, hB, htot, hbit, hzero, how⟩ := id hw
  obtain ⟨hrn, hrr, hla⟩ := id hrd
  obtain ⟨hsn, hrk, hfo, hcnt, hinj, hsur⟩ := id hsg
  have hp := z_p2_le (k := ct.1.2.1) (by omega)
  obtain ⟨y0, y1, y2, y3, y4, y5, y6, y7, y8⟩ := hrel.1
  simp only [Int.zero_add] at y1 y2 y3 y4 y5 y6 y7 y8
  refine z_iload_n C 1 dX7_save_0 rfl ?_
  refine z_iconst C 0 dX7_save_1 ?_
  refine z_iconst C 1 dX7_save_2 ?_
  refine z_callSi C [] [(hM, .inr (7, [.ref aS, .ref aPa, .int (z_I kn), .ref aSl, .ref aSv, .ref aPd, .int (z_I ln)])), (aS, z_ai cI 712 f), (aSl, z_ai cI 712 slf), (aSv, z_ai cZ 2 svf)] [.int (z_I k), .int (z_I 0), .int (z_I 1)] [] (c_X7_in l D cI cZ cO k 0 1 (by first | assumption | omega) (by first | assumption | omega) (by first | assumption | omega)) gX7_save_X7_in rfl zd_X7_in rfl (by decide) rfl (by decide) rfl rfl rfl (Nat.le_of_ble_eq_true rfl) (by decide) dX7_save_3 ?_
  refine z_if_ne C 12 dX7_save_6 (by decide) (by omega) (fun hc1 => ?_) (fun hc1 => ?_)
  · skip
    have hz := z_if1.mp hc1
    refine z_iconst C 0 dX7_save_12 ?_
    refine z_istore_n C [(2, .int (z_I 0)), (0, .ref hM), (1, .int (z_I k))] dX7_save_13 (by decide) rfl ?_
    have loop14 : ∀ (zn : Nat) (j9 : Int) (g : Int → Int), 0 ≤ j9 ∧ j9 ≤ 356 → (∀ j : Int, g j = if 356 * k ≤ j ∧ j < 356 * k + j9 then f (j - 356 * k) else slf j) → (356 - j9) < (zn : Int) → z_V p l e { frames := 1, cells := 0, slots := 0, locals := 22 } s m args below meth c D A 3 0 0 Q [(hM, .inr (7, [.ref aS, .ref aPa, .int (z_I kn), .ref aSl, .ref aSv, .ref aPd, .int (z_I ln)])), (aS, z_ai cI 712 f), (aSl, z_ai cI 712 g), (aSv, z_ai cZ 2 svf)] 14 [(2, .int (z_I j9)), (0, .ref hM), (1, .int (z_I k))] [] := by
      intro zn
      induction zn with
      | zero => intro j9 g hj9 hg hm14; exact absurd hm14 (by omega)
      | succ zn14 ih14 =>
        intro j9 g hj9 hg hm14
        refine z_iload_n C 0 dX7_save_14 rfl ?_
        refine z_sipush C 356 dX7_save_15 (by decide) ?_
        refine z_icmp_ge C 45 dX7_save_18 (by decide) (by omega) (by omega) (fun hc2 => ?_) (fun hc2 => ?_)
        · skip
          have hk9 : j9 = 356 := by omega
          have hun := z_mv_save hmv (k := k) (by omega) hslk hok hrel (g := g) (fun j => by rw [hg j, hk9])
          refine z_aload_n C 1 dX7_save_45 rfl ?_
          refine z_get C 0 4 zi_X7_save_X7 rfl rfl (by decide) zl_X7_save_19 rfl rfl dX7_save_46 ?_
          refine z_iload_n C 2 dX7_save_49 rfl ?_
          refine z_iconst C 1 dX7_save_50 ?_
          refine z_zast C 3 1 ([(hM, .inr (7, [.ref aS, .ref aPa, .int (z_I kn), .ref aSl, .ref aSv, .ref aPd, .int (z_I ln)])), (aS, z_ai cI 712 f), (aSl, z_ai cI 712 g), (aSv, z_ai cZ 2 (z_u svf k 1))]) rfl rfl (by decide) (by omega) (by decide) rfl dX7_save_51 ?_
          refine z_aload_n C 1 dX7_save_52 rfl ?_
          refine z_get C 0 0 zi_X7_save_X7 rfl rfl (by decide) zl_X7_save_7 rfl rfl dX7_save_53 ?_
          refine z_iconst C 3 dX7_save_56 ?_
          refine z_iald C 1 0 rfl rfl (by decide) (by omega) dX7_save_57 ?_
          exact z_irete C hQ (g, z_u svf k 1) rfl ⟨by rw [if_pos (by omega)]; exact y3, by rw [if_pos (by omega), if_pos (by omega)]; exact hun⟩ dX7_save_58
        · skip
          refine z_aload_n C 1 dX7_save_21 rfl ?_
          refine z_get C 0 3 zi_X7_save_X7 rfl rfl (by decide) zl_X7_save_16 rfl rfl dX7_save_22 ?_
          refine z_sipush C 356 dX7_save_25 (by decide) ?_
          refine z_iload_n C 2 dX7_save_28 rfl ?_
          refine z_imul C dX7_save_29 ?_
          refine z_iload_n C 0 dX7_save_30 rfl ?_
          refine z_iadd C dX7_save_31 ?_
          refine z_aload_n C 1 dX7_save_32 rfl ?_
          refine z_get C 0 0 zi_X7_save_X7 rfl rfl (by decide) zl_X7_save_7 rfl rfl dX7_save_33 ?_
          refine z_iload_n C 0 dX7_save_36 rfl ?_
          refine z_iald C 1 0 rfl rfl (by decide) (by omega) dX7_save_37 ?_
          refine z_iast C 2 0 ([(hM, .inr (7, [.ref aS, .ref aPa, .int (z_I kn), .ref aSl, .ref aSv, .ref aPd, .int (z_I ln)])), (aS, z_ai cI 712 f), (aSl, z_ai cI 712 (z_u g ((356 * k) + j9) (f j9))), (aSv, z_ai cZ 2 svf)]) rfl rfl (by decide) (by omega) rfl dX7_save_38 ?_
          refine z_iinc C 0 [(2, .int (z_I (j9 + 1))), (0, .ref hM), (1, .int (z_I k))] dX7_save_39 rfl (by decide) rfl ?_
          refine z_goto C 14 dX7_save_42 (by decide) ?_
          exact ih14 (j9 + 1) (z_u g ((356 * k) + j9) (f j9)) (by first | assumption | omega) (fun j => by by_cases h3 : j = 356 * k + j9; (· rw [h3, z_u_same, if_pos (by omega)]; congr 1; omega); (· rw [z_u_ne h3, hg j]; by_cases h4 : 356 * k ≤ j ∧ j < 356 * k + j9; (· rw [if_pos h4, if_pos (by omega)]); (· rw [if_neg h4, if_neg (by omega)]))) (by omega)
    exact loop14 357 0 slf (by first | assumption | omega) (fun j => by rw [if_neg (by omega)]) (by omega)
  · skip
    have hz := z_if0.mp (by omega)
    refine z_bipush C (-2) dX7_save_9 (by decide) ?_
    exact z_irete C hQ (slf, svf) rfl ⟨by rw [if_neg (by omega)], by rw [if_neg (by omega), if_neg (by omega)]; exact hmv⟩ dX7_save_11
theorem zi_X7_restore_X7 : ∀ w ∈ u_ws RX7 TX7 7, w ∈ wsX7_restore := by decide +kernel
theorem zl_X7_restore_16 : Cond.fieldLink RX7 16 "RippleCountsModel" "slots" "[I" ∈ wsX7_restore := by decide +kernel
theorem zl_X7_restore_19 : Cond.fieldLink RX7 19 "RippleCountsModel" "isSaved" "[Z" ∈ wsX7_restore := by decide +kernel
theorem zl_X7_restore_7 : Cond.fieldLink RX7 7 "RippleCountsModel" "s" "[I" ∈ wsX7_restore := by decide +kernel
theorem zd_X7_restore : yX7_restore.cls ≠ "java/lang/invoke/MethodHandle" ∧ yX7_restore.cls ≠ "java/lang/invoke/VarHandle" ∧ (parseMethodDescriptor yX7_restore.desc).map (fun d => d.parameters.length) = some 1 := by decide +kernel
set_option maxHeartbeats 4000000 in
set_option maxRecDepth 100000 in
theorem c_X7_restore (l : Launch) (D : va_G) (cI cZ cO : ClassId) (hM aS aPa aSl aSv aPd : Nat) (kn ln : Int) (f : Int → Int) (pf : Int → Int) (ct : z_Ct) (kp od : Int) (hr : Int → z_Ct) (sl : Int → z_Ct) (us slf svf : Int → Int) (k : Int) (hrel : z_rel ct 0 f) (hok : z_ok ct) (htt : ct.1.1 ≤ 9999) (hmh : z_mh kp od hr kn pf) (hkp : 0 ≤ kp ∧ kp ≤ 6) (hod : 0 ≤ od ∧ od < 7) (hhr : ∀ j : Int, 0 ≤ j → j < 7 → z_ok (hr j)) (hmv : z_mv sl us slf svf) (hslk : ∀ j : Int, 0 ≤ j → j < 2 → z_ok (sl j)) (hk : -2147483648 ≤ k ∧ k < 2147483648) : z_Ei ((Int → Int) × (Int → Int) × Int) l yX7_restore wsX7_restore 1 22 D (z_T cI cZ cO) [.ref hM, .int (z_I k)] ([(hM, .inr (7, [.ref aS, .ref aPa, .int (z_I kn), .ref aSl, .ref aSv, .ref aPd, .int (z_I ln)])), (aS, z_ai cI 712 f), (aPa, z_ai cI 2136 pf), (aSl, z_ai cI 712 slf), (aSv, z_ai cZ 2 svf)]) (fun u => [(hM, .inr (7, [.ref aS, .ref aPa, .int (z_I u.2.2), .ref aSl, .ref aSv, .ref aPd, .int (z_I ln)])), (aS, z_ai cI 712 u.1), (aPa, z_ai cI 2136 u.2.1), (aSl, z_ai cI 712 slf), (aSv, z_ai cZ 2 svf)]) (fun ri u => ri = (if 0 ≤ k ∧ k < 2 ∧ ¬ us k = 0 then (sl k).2.2.2.2.1 else if 0 ≤ k ∧ k < 2 then -5 else -2) ∧ z_rel (if 0 ≤ k ∧ k < 2 ∧ ¬ us k = 0 then sl k else ct) 0 u.1 ∧ z_mh (if 0 ≤ k ∧ k < 2 ∧ ¬ us k = 0 then z_stK (sl k).2.2.2.2.1 kp else kp) (if 0 ≤ k ∧ k < 2 ∧ ¬ us k = 0 then z_stO (sl k).2.2.2.2.1 kp od else od) (if 0 ≤ k ∧ k < 2 ∧ ¬ us k = 0 then (z_uc hr ((od + kp) % 7) ct) else hr) u.2.2 u.2.1) := by
  refine z_Ei_of (cc := cX7_restore) (nL := 3) (ret := (some .int)) (by decide +kernel) rfl (Nat.le_of_ble_eq_true rfl) ?_
  intro p e s m args below meth c A Q C hQ
  change z_V p l e { frames := 1, cells := 0, slots := 0, locals := 22 } s m args below meth c D A 3 0 0 Q ([(hM, .inr (7, [.ref aS, .ref aPa, .int (z_I kn), .ref aSl, .ref aSv, .ref aPd, .int (z_I ln)])), (aS, z_ai cI 712 f), (aPa, z_ai cI 2136 pf), (aSl, z_ai cI 712 slf), (aSv, z_ai cZ 2 svf)]) 0 [(0, .ref hM), (1, .int (z_I k))] []
  obtain ⟨hw, hrd, hsg, hho, hck, hlc, hld, hlw, hrl0⟩ := id hok
  obtain ⟨ht0, hst, hsh, hdl, hdu, hdn, hB, htot, hbit, hzero, how⟩ := id hw
  obtain ⟨hrn, hrr, hla⟩ := id hrd
  obtain ⟨hsn, hrk, hfo, hcnt, hinj, hsur⟩ := id hsg
  have hp := z_p2_le (k := ct.1.2.1) (by omega)
  obtain ⟨y0, y1, y2, y3, y4, y5, y6, y7, y8⟩ := hrel.1
  simp only [Int.zero_add] at y1 y2 y3 y4 y5 y6 y7 y8
  have hkn := hmh.1
  refine z_iload_n C 1 dX7_restore_0 rfl ?_
  refine z_iconst C 0 dX7_restore_1 ?_
  refine z_iconst C 1 dX7_restore_2 ?_
  refine z_callSi C [] [(hM, .inr (7, [.ref aS, .ref aPa, .int (z_I kn), .ref aSl, .ref aSv, .ref aPd, .int (z_I ln)])), (aS, z_ai cI 712 f), (aPa, z_ai cI 2136 pf), (aSl, z_ai cI 712 slf), (aSv, z_ai cZ 2 svf)] [.int (z_I k), .int (z_I 0), .int (z_I 1)] [] (c_X7_in l D cI cZ cO k 0 1 (by first | assumption | omega) (by first | assumption | omega) (by first | assumption | omega)) gX7_restore_X7_in rfl zd_X7_in rfl (by decide) rfl (by decide) rfl rfl rfl (Nat.le_of_ble_eq_true rfl) (by decide) dX7_restore_3 ?_
  refine z_if_ne C 12 dX7_restore_6 (by decide) (by omega) (fun hc1 => ?_) (fun hc1 => ?_)
  · skip
    have hz := z_if1.mp hc1
    have hv9 := hmv k (by omega) (by omega)
    refine z_aload_n C 0 dX7_restore_12 rfl ?_
    refine z_get C 0 4 zi_X7_restore_X7 rfl rfl (by decide) zl_X7_restore_19 rfl rfl dX7_restore_13 ?_
    refine z_iload_n C 1 dX7_restore_16 rfl ?_
    refine z_zald C 4 1 rfl rfl (by decide) (by omega) dX7_restore_17 ?_
    refine z_if_ne C 24 dX7_restore_18 (by decide) (by rw [hv9.1]; omega) (fun hc2 => ?_) (fun hc2 => ?_)
    · skip
      have hcn : 0 ≤ k ∧ k < 2 ∧ ¬ us k = 0 := by rw [hv9.1] at hc2; omega
      refine z_aload_n C 0 dX7_restore_24 rfl ?_
      refine z_callVv C [0, 1, 2] [(hM, .inr (7, [.ref aS, .ref aPa, .int (z_I (if kn = 6 then 6 else kn + 1)), .ref aSl, .ref aSv, .ref aPd, .int (z_I ln)])), (aS, z_ai cI 712 f), (aPa, z_ai cI 2136 (z_rem f pf kn)), (aSl, z_ai cI 712 slf), (aSv, z_ai cZ 2 svf)] [] [] (c_X7_remembers l D cI cZ cO hM aS aPa aSl aSv aPd kn ln f pf (by omega)) gX7_restore_X7_remembers rfl zd_X7_remembers rfl (by decide) rfl rfl rfl (by decide) rfl rfl rfl (Nat.le_of_ble_eq_true rfl) (by decide) dX7_restore_25 ?_
      refine z_iconst C 0 dX7_restore_28 ?_
      refine z_istore_n C [(2, .int (z_I 0)), (0, .ref hM), (1, .int (z_I k))] dX7_restore_29 (by decide) rfl ?_
      have loop30 : ∀ (zn : Nat) (j9 : Int) (g : Int → Int), 0 ≤ j9 ∧ j9 ≤ 356 → (∀ j : Int, g j = if 0 ≤ j ∧ j < j9 then slf (356 * k + j) else f j) → (356 - j9) < (zn : Int) → z_V p l e { frames := 1, cells := 0, slots := 0, locals := 22 } s m args below meth c D A 3 0 0 Q [(hM, .inr (7, [.ref aS, .ref aPa, .int (z_I (if kn = 6 then 6 else kn + 1)), .ref aSl, .ref aSv, .ref aPd, .int (z_I ln)])), (aS, z_ai cI 712 g), (aPa, z_ai cI 2136 (z_rem f pf kn)), (aSl, z_ai cI 712 slf), (aSv, z_ai cZ 2 svf)] 30 [(2, .int (z_I j9)), (0, .ref hM), (1, .int (z_I k))] [] := by
        intro zn
        induction zn with
        | zero => intro j9 g hj9 hg hm30; exact absurd hm30 (by omega)
        | succ zn30 ih30 =>
          intro j9 g hj9 hg hm30
          refine z_iload_n C 0 dX7_restore_30 rfl ?_
          refine z_sipush C 356 dX7_restore_31 (by decide) ?_
          refine z_icmp_ge C 61 dX7_restore_34 (by decide) (by omega) (by omega) (fun hc3 => ?_) (fun hc3 => ?_)
          · skip
            have hk9 : j9 = 356 := by omega
            have hso := hslk k (by omega) (by omega)
            have hrs : z_rel (sl k) 0 g := z_rel_shift (hv9.2.2 hcn.2.2) (by have := hso.2.1.1; omega) (by have := hso.2.2.1.1; omega) (fun j j1 j2 => by rw [Int.zero_add, hg j, if_pos (by omega)])
            have hsc := hso.2.2.2.2.1
            have hg3 : g 3 = ct.2.2.2.2.1 ∨ True := Or.inr trivial
            have hy3 := hrs.1.2.2.2.1
            rw [Int.zero_add] at hy3
            refine z_aload_n C 1 dX7_restore_61 rfl ?_
            refine z_get C 0 0 zi_X7_restore_X7 rfl rfl (by decide) zl_X7_restore_7 rfl rfl dX7_restore_62 ?_
            refine z_iconst C 3 dX7_restore_65 ?_
            refine z_iald C 1 0 rfl rfl (by decide) (by omega) dX7_restore_66 ?_
            exact z_irete C hQ (g, (z_rem f pf kn), (if kn = 6 then 6 else kn + 1)) rfl ⟨by rw [if_pos hcn]; exact hy3, by rw [if_pos hcn]; exact hrs, by rw [if_pos hcn, if_pos hcn, if_pos hcn]; exact z_mh_rem hmh hkp hod hrel hok hhr (by omega)⟩ dX7_restore_67
          · skip
            refine z_aload_n C 1 dX7_restore_37 rfl ?_
            refine z_get C 0 0 zi_X7_restore_X7 rfl rfl (by decide) zl_X7_restore_7 rfl rfl dX7_restore_38 ?_
            refine z_iload_n C 0 dX7_restore_41 rfl ?_
            refine z_aload_n C 1 dX7_restore_42 rfl ?_
            refine z_get C 0 3 zi_X7_restore_X7 rfl rfl (by decide) zl_X7_restore_16 rfl rfl dX7_restore_43 ?_
            refine z_sipush C 356 dX7_restore_46 (by decide) ?_
            refine z_iload_n C 2 dX7_restore_49 rfl ?_
            refine z_imul C dX7_restore_50 ?_
            refine z_iload_n C 0 dX7_restore_51 rfl ?_
            refine z_iadd C dX7_restore_52 ?_
            refine z_iald C 3 0 rfl rfl (by decide) (by omega) dX7_restore_53 ?_
            refine z_iast C 1 0 ([(hM, .inr (7, [.ref aS, .ref aPa, .int (z_I (if kn = 6 then 6 else kn + 1)), .ref aSl, .ref aSv, .ref aPd, .int (z_I ln)])), (aS, z_ai cI 712 (z_u g j9 (slf ((356 * k) + j9)))), (aPa, z_ai cI 2136 (z_rem f pf kn)), (aSl, z_ai cI 712 slf), (aSv, z_ai cZ 2 svf)]) rfl rfl (by decide) (by omega) rfl dX7_restore_54 ?_
            refine z_iinc C 0 [(2, .int (z_I (j9 + 1))), (0, .ref hM), (1, .int (z_I k))] dX7_restore_55 rfl (by decide) rfl ?_
            refine z_goto C 30 dX7_restore_58 (by decide) ?_
            exact ih30 (j9 + 1) (z_u g j9 (slf ((356 * k) + j9))) (by first | assumption | omega) (fun j => by by_cases h3 : j = j9; (· rw [h3, z_u_same, if_pos (by omega)]); (· rw [z_u_ne h3, hg j]; by_cases h4 : 0 ≤ j ∧ j < j9; (· rw [if_pos h4, if_pos (by omega)]); (· rw [if_neg h4, if_neg (by omega)]))) (by omega)
      exact loop30 357 0 f (by first | assumption | omega) (fun j => by rw [if_neg (by omega)]) (by omega)
    · skip
      have hcn : ¬ (0 ≤ k ∧ k < 2 ∧ ¬ us k = 0) := by rw [hv9.1] at hc2; omega
      refine z_bipush C (-5) dX7_restore_21 (by decide) ?_
      exact z_irete C hQ (f, pf, kn) rfl ⟨by rw [if_neg hcn, if_pos (by omega)], by rw [if_neg hcn]; exact hrel, by rw [if_neg hcn, if_neg hcn, if_neg hcn]; exact hmh⟩ dX7_restore_23
  · skip
    have hz := z_if0.mp (by omega)
    have hcn : ¬ (0 ≤ k ∧ k < 2 ∧ ¬ us k = 0) := by omega
    refine z_bipush C (-2) dX7_restore_9 (by decide) ?_
    exact z_irete C hQ (f, pf, kn) rfl ⟨by rw [if_neg hcn, if_neg (by omega)], by rw [if_neg hcn]; exact hrel, by rw [if_neg hcn, if_neg hcn, if_neg hcn]; exact hmh⟩ dX7_restore_11
