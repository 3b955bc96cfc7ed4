theorem zd_X7_in : yX7_in.cls ≠ "java/lang/invoke/MethodHandle" ∧ yX7_in.cls ≠ "java/lang/invoke/VarHandle" ∧ (parseMethodDescriptor yX7_in.desc).map (fun d => d.parameters.length) = some 3 := by decide +kernel
set_option maxHeartbeats 4000000 in
set_option maxRecDepth 100000 in
theorem c_X7_in (l : Launch) (D : va_G) (cI cZ cO : ClassId) (v lo hi : Int) (hv : -2147483648 ≤ v ∧ v < 2147483648) (hlo : -2147483648 ≤ lo ∧ lo < 2147483648) (hhi : -2147483648 ≤ hi ∧ hi < 2147483648) : z_Mi l yX7_in wsX7_in 0 0 D (z_T cI cZ cO) [.int (z_I v), .int (z_I lo), .int (z_I hi)] ([]) ([]) (if lo ≤ v ∧ v ≤ hi then 1 else 0) := by
  refine z_Mi_of (cc := cX7_in) (nL := 3) (ret := (some .boolean)) (by decide +kernel) rfl (Nat.le_of_ble_eq_true rfl) ?_
  intro p e s m args below meth c A Q C hQ
  change z_V p l e { frames := 0, cells := 0, slots := 0, locals := 0 } s m args below meth c D A 3 0 0 Q ([]) 0 [(0, .int (z_I v)), (1, .int (z_I lo)), (2, .int (z_I hi))] []
  refine z_iload_n C 0 dX7_in_0 rfl ?_
  refine z_iload_n C 1 dX7_in_1 rfl ?_
  refine z_icmp_lt C 14 dX7_in_2 (by decide) (by omega) (by omega) (fun hc1 => ?_) (fun hc1 => ?_)
  · skip
    refine z_iconst C 0 dX7_in_14 ?_
    exact z_zret C hQ rfl (by first | rfl | omega | ((repeat' split) <;> omega)) (by omega) dX7_in_15
  · skip
    refine z_iload_n C 0 dX7_in_5 rfl ?_
    refine z_iload_n C 2 dX7_in_6 rfl ?_
    refine z_icmp_gt C 14 dX7_in_7 (by decide) (by omega) (by omega) (fun hc2 => ?_) (fun hc2 => ?_)
    · skip
      refine z_iconst C 0 dX7_in_14 ?_
      exact z_zret C hQ rfl (by first | rfl | omega | ((repeat' split) <;> omega)) (by omega) dX7_in_15
    · skip
      refine z_iconst C 1 dX7_in_10 ?_
      refine z_goto C 15 dX7_in_11 (by decide) ?_
      exact z_zret C hQ rfl (by first | rfl | omega | ((repeat' split) <;> omega)) (by omega) dX7_in_15
theorem zi_X7_stages_X7 : ∀ w ∈ u_ws RX7 TX7 7, w ∈ wsX7_stages := by decide +kernel
theorem zl_X7_stages_7 : Cond.fieldLink RX7 7 "RippleCountsModel" "s" "[I" ∈ wsX7_stages := by decide +kernel
theorem zd_X7_stages : yX7_stages.cls ≠ "java/lang/invoke/MethodHandle" ∧ yX7_stages.cls ≠ "java/lang/invoke/VarHandle" ∧ (parseMethodDescriptor yX7_stages.desc).map (fun d => d.parameters.length) = some 1 := by decide +kernel
set_option maxHeartbeats 4000000 in
set_option maxRecDepth 100000 in
theorem c_X7_stages (l : Launch) (D : va_G) (cI cZ cO : ClassId) (hM aS aPa aSl aSv aPd : Nat) (kn ln : Int) (f : Int → Int) (b : Int) (hb : 0 ≤ b ∧ b ≤ 356) : z_Mi l yX7_stages wsX7_stages 0 0 D (z_T cI cZ cO) [.ref hM, .int (z_I b)] ([(hM, .inr (7, [.ref aS, .ref aPa, .int (z_I kn), .ref aSl, .ref aSv, .ref aPd, .int (z_I ln)])), (aS, z_ai cI 712 f)]) ([(hM, .inr (7, [.ref aS, .ref aPa, .int (z_I kn), .ref aSl, .ref aSv, .ref aPd, .int (z_I ln)])), (aS, z_ai cI 712 f)]) (f b) := by
  refine z_Mi_of (cc := cX7_stages) (nL := 2) (ret := (some .int)) (by decide +kernel) rfl (Nat.le_of_ble_eq_true rfl) ?_
  intro p e s m args below meth c A Q C hQ
  change z_V p l e { frames := 0, cells := 0, slots := 0, locals := 0 } s m args below meth c D A 2 0 0 Q ([(hM, .inr (7, [.ref aS, .ref aPa, .int (z_I kn), .ref aSl, .ref aSv, .ref aPd, .int (z_I ln)])), (aS, z_ai cI 712 f)]) 0 [(0, .ref hM), (1, .int (z_I b))] []
  refine z_aload_n C 0 dX7_stages_0 rfl ?_
  refine z_get C 0 0 zi_X7_stages_X7 rfl rfl (by decide) zl_X7_stages_7 rfl rfl dX7_stages_1 ?_
  refine z_iload_n C 1 dX7_stages_4 rfl ?_
  refine z_iconst C 0 dX7_stages_5 ?_
  refine z_iadd C dX7_stages_6 ?_
  refine z_iconst C 0 dX7_stages_7 ?_
  refine z_iadd C dX7_stages_8 ?_
  refine z_iald C 1 0 rfl rfl (by decide) (by omega) dX7_stages_9 ?_
  exact z_iret C hQ rfl (by rw [show b + 0 + 0 = b by omega]) dX7_stages_10
theorem zd_X7_due : yX7_due.cls ≠ "java/lang/invoke/MethodHandle" ∧ yX7_due.cls ≠ "java/lang/invoke/VarHandle" ∧ (parseMethodDescriptor yX7_due.desc).map (fun d => d.parameters.length) = some 3 := by decide +kernel
set_option maxHeartbeats 4000000 in
set_option maxRecDepth 100000 in
theorem c_X7_due (l : Launch) (D : va_G) (cI cZ cO : ClassId) (b k i : Int) : z_Mi l yX7_due wsX7_due 0 0 D (z_T cI cZ cO) [.int (z_I b), .int (z_I k), .int (z_I i)] ([]) ([]) (b + 24 + 21 * k + i) := by
  refine z_Mi_of (cc := cX7_due) (nL := 3) (ret := (some .int)) (by decide +kernel) rfl (Nat.le_of_ble_eq_true rfl) ?_
  intro p e s m args below meth c A Q C hQ
  change z_V p l e { frames := 0, cells := 0, slots := 0, locals := 0 } s m args below meth c D A 3 0 0 Q ([]) 0 [(0, .int (z_I b)), (1, .int (z_I k)), (2, .int (z_I i))] []
  refine z_iload_n C 0 dX7_due_0 rfl ?_
  refine z_bipush C 24 dX7_due_1 (by decide) ?_
  refine z_iadd C dX7_due_3 ?_
  refine z_bipush C 21 dX7_due_4 (by decide) ?_
  refine z_iload_n C 1 dX7_due_6 rfl ?_
  refine z_imul C dX7_due_7 ?_
  refine z_iadd C dX7_due_8 ?_
  refine z_iload_n C 2 dX7_due_9 rfl ?_
  refine z_iadd C dX7_due_10 ?_
  exact z_iret C hQ rfl rfl dX7_due_11
theorem zi_X7_shows_X7 : ∀ w ∈ u_ws RX7 TX7 7, w ∈ wsX7_shows := by decide +kernel
theorem zl_X7_shows_7 : Cond.fieldLink RX7 7 "RippleCountsModel" "s" "[I" ∈ wsX7_shows := by decide +kernel
theorem zd_X7_shows : yX7_shows.cls ≠ "java/lang/invoke/MethodHandle" ∧ yX7_shows.cls ≠ "java/lang/invoke/VarHandle" ∧ (parseMethodDescriptor yX7_shows.desc).map (fun d => d.parameters.length) = some 1 := by decide +kernel
set_option maxHeartbeats 4000000 in
set_option maxRecDepth 100000 in
theorem c_X7_shows (l : Launch) (D : va_G) (cI cZ cO : ClassId) (hM aS aPa aSl aSv aPd : Nat) (kn ln : Int) (f : Int → Int) (b : Int) (hb : 0 ≤ b ∧ b ≤ 356) (hst : 0 ≤ f b ∧ f b ≤ 5) (ho : ∀ k : Int, 0 ≤ k → k < 5 → f (b + 14 + k) = 0 ∨ f (b + 14 + k) = 1) : z_Mi l yX7_shows wsX7_shows 1 21 D (z_T cI cZ cO) [.ref hM, .int (z_I b)] ([(hM, .inr (7, [.ref aS, .ref aPa, .int (z_I kn), .ref aSl, .ref aSv, .ref aPd, .int (z_I ln)])), (aS, z_ai cI 712 f)]) ([(hM, .inr (7, [.ref aS, .ref aPa, .int (z_I kn), .ref aSl, .ref aSv, .ref aPd, .int (z_I ln)])), (aS, z_ai cI 712 f)]) (z_it (fun k a => a + f (b + 14 + k) * z_p2 k) 0 (f b).toNat) := by
  refine z_Mi_of (cc := cX7_shows) (nL := 4) (ret := (some .int)) (by decide +kernel) rfl (Nat.le_of_ble_eq_true rfl) ?_
  intro p e s m args below meth c A Q C hQ
  change z_V p l e { frames := 1, cells := 0, slots := 0, locals := 21 } s m args below meth c D A 4 0 0 Q ([(hM, .inr (7, [.ref aS, .ref aPa, .int (z_I kn), .ref aSl, .ref aSv, .ref aPd, .int (z_I ln)])), (aS, z_ai cI 712 f)]) 0 [(0, .ref hM), (1, .int (z_I b))] []
  refine z_iconst C 0 dX7_shows_0 ?_
  refine z_istore_n C [(2, .int (z_I 0)), (0, .ref hM), (1, .int (z_I b))] dX7_shows_1 (by decide) rfl ?_
  refine z_iconst C 0 dX7_shows_2 ?_
  refine z_istore_n C [(3, .int (z_I 0)), (2, .int (z_I 0)), (0, .ref hM), (1, .int (z_I b))] dX7_shows_3 (by decide) rfl ?_
  have loop4 : ∀ (zn : Nat) (k : Int) (a : Int), 0 ≤ k ∧ k ≤ f b → a = z_it (fun k a => a + f (b + 14 + k) * z_p2 k) 0 k.toNat → (f b - k) < (zn : Int) → z_V p l e { frames := 1, cells := 0, slots := 0, locals := 21 } s m args below meth c D A 4 0 0 Q [(hM, .inr (7, [.ref aS, .ref aPa, .int (z_I kn), .ref aSl, .ref aSv, .ref aPd, .int (z_I ln)])), (aS, z_ai cI 712 f)] 4 [(3, .int (z_I k)), (2, .int (z_I a)), (0, .ref hM), (1, .int (z_I b))] [] := by
    intro zn
    induction zn with
    | zero => intro k a hk ha hm4; exact absurd hm4 (by omega)
    | succ zn4 ih4 =>
      intro k a hk ha hm4
      refine z_iload_n C 0 dX7_shows_4 rfl ?_
      refine z_aload_n C 2 dX7_shows_5 rfl ?_
      refine z_iload_n C 3 dX7_shows_6 rfl ?_
      refine z_callVi C [0, 1] [(hM, .inr (7, [.ref aS, .ref aPa, .int (z_I kn), .ref aSl, .ref aSv, .ref aPd, .int (z_I ln)])), (aS, z_ai cI 712 f)] [.int (z_I b)] [.int (z_I k)] (c_X7_stages l D cI cZ cO hM aS aPa aSl aSv aPd kn ln f b (by first | assumption | omega)) gX7_shows_X7_stages rfl zd_X7_stages rfl (by decide) rfl rfl rfl (by decide) rfl rfl rfl (Nat.le_of_ble_eq_true rfl) (by decide) dX7_shows_7 ?_
      refine z_icmp_ge C 35 dX7_shows_10 (by decide) (by omega) (by omega) (fun hc1 => ?_) (fun hc1 => ?_)
      · skip
        obtain rfl : k = f b := by omega
        refine z_iload_n C 1 dX7_shows_35 rfl ?_
        exact z_iret C hQ rfl ha dX7_shows_36
      · skip
        have hok := ho k hk.1 (by omega)
        refine z_iload_n C 1 dX7_shows_13 rfl ?_
        refine z_aload_n C 2 dX7_shows_14 rfl ?_
        refine z_get C 0 0 zi_X7_shows_X7 rfl rfl (by decide) zl_X7_shows_7 rfl rfl dX7_shows_15 ?_
        refine z_iload_n C 3 dX7_shows_18 rfl ?_
        refine z_bipush C 14 dX7_shows_19 (by decide) ?_
        refine z_iadd C dX7_shows_21 ?_
        refine z_iload_n C 0 dX7_shows_22 rfl ?_
        refine z_iadd C dX7_shows_23 ?_
        refine z_iald C 1 0 rfl rfl (by decide) (by omega) dX7_shows_24 ?_
        refine z_iload_n C 0 dX7_shows_25 rfl ?_
        refine z_ishl C ((f ((b + 14) + k)) * z_p2 k) dX7_shows_26 (z_shlb (by omega) (by omega)) ?_
        refine z_iadd C dX7_shows_27 ?_
        refine z_istore_n C [(2, .int (z_I (a + ((f ((b + 14) + k)) * z_p2 k)))), (3, .int (z_I k)), (0, .ref hM), (1, .int (z_I b))] dX7_shows_28 (by decide) rfl ?_
        refine z_iinc C 1 [(3, .int (z_I (k + 1))), (2, .int (z_I (a + ((f ((b + 14) + k)) * z_p2 k)))), (0, .ref hM), (1, .int (z_I b))] dX7_shows_29 rfl (by decide) rfl ?_
        refine z_goto C 4 dX7_shows_32 (by decide) ?_
        exact ih4 (k + 1) (a + ((f ((b + 14) + k)) * z_p2 k)) (by first | assumption | omega) (by rw [z_it_next _ _ hk.1, ← ha]) (by omega)
  exact loop4 ((f b).toNat + 1) 0 0 (by first | assumption | omega) rfl (by omega)
theorem zi_X7_onWay_X7 : ∀ w ∈ u_ws RX7 TX7 7, w ∈ wsX7_onWay := by decide +kernel
theorem zl_X7_onWay_7 : Cond.fieldLink RX7 7 "RippleCountsModel" "s" "[I" ∈ wsX7_onWay := by decide +kernel
theorem zd_X7_onWay : yX7_onWay.cls ≠ "java/lang/invoke/MethodHandle" ∧ yX7_onWay.cls ≠ "java/lang/invoke/VarHandle" ∧ (parseMethodDescriptor yX7_onWay.desc).map (fun d => d.parameters.length) = some 2 := by decide +kernel
set_option maxHeartbeats 4000000 in
set_option maxRecDepth 100000 in
theorem c_X7_onWay (l : Launch) (D : va_G) (cI cZ cO : ClassId) (hM aS aPa aSl aSv aPd : Nat) (kn ln : Int) (f : Int → Int) (b k : Int) (hb : 0 ≤ b ∧ b ≤ 356) (hk : 0 ≤ k ∧ k < 5) : z_Mi l yX7_onWay wsX7_onWay 1 22 D (z_T cI cZ cO) [.ref hM, .int (z_I b), .int (z_I k)] ([(hM, .inr (7, [.ref aS, .ref aPa, .int (z_I kn), .ref aSl, .ref aSv, .ref aPd, .int (z_I ln)])), (aS, z_ai cI 712 f)]) ([(hM, .inr (7, [.ref aS, .ref aPa, .int (z_I kn), .ref aSl, .ref aSv, .ref aPd, .int (z_I ln)])), (aS, z_ai cI 712 f)]) (z_it (fun i a => a + f (b + 24 + 21 * k + i)) 0 21) := by
  refine z_Mi_of (cc := cX7_onWay) (nL := 5) (ret := (some .int)) (by decide +kernel) rfl (Nat.le_of_ble_eq_true rfl) ?_
  intro p e s m args below meth c A Q C hQ
  change z_V p l e { frames := 1, cells := 0, slots := 0, locals := 22 } s m args below meth c D A 5 0 0 Q ([(hM, .inr (7, [.ref aS, .ref aPa, .int (z_I kn), .ref aSl, .ref aSv, .ref aPd, .int (z_I ln)])), (aS, z_ai cI 712 f)]) 0 [(0, .ref hM), (1, .int (z_I b)), (2, .int (z_I k))] []
  refine z_iconst C 0 dX7_onWay_0 ?_
  refine z_istore_n C [(3, .int (z_I 0)), (0, .ref hM), (1, .int (z_I b)), (2, .int (z_I k))] dX7_onWay_1 (by decide) rfl ?_
  refine z_iconst C 0 dX7_onWay_2 ?_
  refine z_istore C [(4, .int (z_I 0)), (3, .int (z_I 0)), (0, .ref hM), (1, .int (z_I b)), (2, .int (z_I k))] dX7_onWay_3 (by decide) rfl ?_
  have loop5 : ∀ (zn : Nat) (i : Int) (a : Int), 0 ≤ i ∧ i ≤ 21 → a = z_it (fun i a => a + f (b + 24 + 21 * k + i)) 0 i.toNat → (21 - i) < (zn : Int) → z_V p l e { frames := 1, cells := 0, slots := 0, locals := 22 } s m args below meth c D A 5 0 0 Q [(hM, .inr (7, [.ref aS, .ref aPa, .int (z_I kn), .ref aSl, .ref aSv, .ref aPd, .int (z_I ln)])), (aS, z_ai cI 712 f)] 5 [(4, .int (z_I i)), (3, .int (z_I a)), (0, .ref hM), (1, .int (z_I b)), (2, .int (z_I k))] [] := by
    intro zn
    induction zn with
    | zero => intro i a hi ha hm5; exact absurd hm5 (by omega)
    | succ zn5 ih5 =>
      intro i a hi ha hm5
      refine z_iload C 0 dX7_onWay_5 rfl ?_
      refine z_bipush C 20 dX7_onWay_7 (by decide) ?_
      refine z_icmp_gt C 33 dX7_onWay_9 (by decide) (by omega) (by omega) (fun hc1 => ?_) (fun hc1 => ?_)
      · skip
        obtain rfl : i = 21 := by omega
        refine z_iload_n C 1 dX7_onWay_33 rfl ?_
        exact z_iret C hQ rfl ha dX7_onWay_34
      · skip
        refine z_iload_n C 1 dX7_onWay_12 rfl ?_
        refine z_aload_n C 2 dX7_onWay_13 rfl ?_
        refine z_get C 0 0 zi_X7_onWay_X7 rfl rfl (by decide) zl_X7_onWay_7 rfl rfl dX7_onWay_14 ?_
        refine z_iload_n C 3 dX7_onWay_17 rfl ?_
        refine z_iload_n C 4 dX7_onWay_18 rfl ?_
        refine z_iload C 0 dX7_onWay_19 rfl ?_
        refine z_callSi C [] [(hM, .inr (7, [.ref aS, .ref aPa, .int (z_I kn), .ref aSl, .ref aSv, .ref aPd, .int (z_I ln)])), (aS, z_ai cI 712 f)] [.int (z_I b), .int (z_I k), .int (z_I i)] [.ref aS, .int (z_I a)] (c_X7_due l D cI cZ cO b k i ) gX7_onWay_X7_due rfl zd_X7_due rfl (by decide) rfl (by decide) rfl rfl rfl (Nat.le_of_ble_eq_true rfl) (by decide) dX7_onWay_21 ?_
        refine z_iald C 1 0 rfl rfl (by decide) (by omega) dX7_onWay_24 ?_
        refine z_iadd C dX7_onWay_25 ?_
        refine z_istore_n C [(3, .int (z_I (a + (f (b + 24 + 21 * k + i))))), (4, .int (z_I i)), (0, .ref hM), (1, .int (z_I b)), (2, .int (z_I k))] dX7_onWay_26 (by decide) rfl ?_
        refine z_iinc C 1 [(4, .int (z_I (i + 1))), (3, .int (z_I (a + (f (b + 24 + 21 * k + i))))), (0, .ref hM), (1, .int (z_I b)), (2, .int (z_I k))] dX7_onWay_27 rfl (by decide) rfl ?_
        refine z_goto C 5 dX7_onWay_30 (by decide) ?_
        exact ih5 (i + 1) (a + (f (b + 24 + 21 * k + i))) (by first | assumption | omega) (by rw [z_it_next _ _ hi.1, ← ha]) (by omega)
  exact loop5 22 0 0 (by first | assumption | omega) rfl (by omega)
theorem zd_X7_allOnWay : yX7_allOnWay.cls ≠ "java/lang/invoke/MethodHandle" ∧ yX7_allOnWay.cls ≠ "java/lang/invoke/VarHandle" ∧ (parseMethodDescriptor yX7_allOnWay.desc).map (fun d => d.parameters.length) = some 1 := by decide +kernel
set_option maxHeartbeats 4000000 in
set_option maxRecDepth 100000 in
theorem c_X7_allOnWay (l : Launch) (D : va_G) (cI cZ cO : ClassId) (hM aS aPa aSl aSv aPd : Nat) (kn ln : Int) (f : Int → Int) (b : Int) (hb : 0 ≤ b ∧ b ≤ 356) (hst : 0 ≤ f b ∧ f b ≤ 5) : z_Mi l yX7_allOnWay wsX7_allOnWay 2 46 D (z_T cI cZ cO) [.ref hM, .int (z_I b)] ([(hM, .inr (7, [.ref aS, .ref aPa, .int (z_I kn), .ref aSl, .ref aSv, .ref aPd, .int (z_I ln)])), (aS, z_ai cI 712 f)]) ([(hM, .inr (7, [.ref aS, .ref aPa, .int (z_I kn), .ref aSl, .ref aSv, .ref aPd, .int (z_I ln)])), (aS, z_ai cI 712 f)]) (z_it (fun k a => a + z_it (fun i a => a + f (b + 24 + 21 * k + i)) 0 21) 0 (f b).toNat) := by
  refine z_Mi_of (cc := cX7_allOnWay) (nL := 4) (ret := (some .int)) (by decide +kernel) rfl (Nat.le_of_ble_eq_true rfl) ?_
  intro p e s m args below meth c A Q C hQ
  change z_V p l e { frames := 2, cells := 0, slots := 0, locals := 46 } s m args below meth c D A 4 0 0 Q ([(hM, .inr (7, [.ref aS, .ref aPa, .int (z_I kn), .ref aSl, .ref aSv, .ref aPd, .int (z_I ln)])), (aS, z_ai cI 712 f)]) 0 [(0, .ref hM), (1, .int (z_I b))] []
  refine z_iconst C 0 dX7_allOnWay_0 ?_
  refine z_istore_n C [(2, .int (z_I 0)), (0, .ref hM), (1, .int (z_I b))] dX7_allOnWay_1 (by decide) rfl ?_
  refine z_iconst C 0 dX7_allOnWay_2 ?_
  refine z_istore_n C [(3, .int (z_I 0)), (2, .int (z_I 0)), (0, .ref hM), (1, .int (z_I b))] dX7_allOnWay_3 (by decide) rfl ?_
  have loop4 : ∀ (zn : Nat) (k : Int) (a : Int), 0 ≤ k ∧ k ≤ f b → a = z_it (fun k a => a + z_it (fun i a => a + f (b + 24 + 21 * k + i)) 0 21) 0 k.toNat → (f b - k) < (zn : Int) → z_V p l e { frames := 2, cells := 0, slots := 0, locals := 46 } s m args below meth c D A 4 0 0 Q [(hM, .inr (7, [.ref aS, .ref aPa, .int (z_I kn), .ref aSl, .ref aSv, .ref aPd, .int (z_I ln)])), (aS, z_ai cI 712 f)] 4 [(3, .int (z_I k)), (2, .int (z_I a)), (0, .ref hM), (1, .int (z_I b))] [] := by
    intro zn
    induction zn with
    | zero => intro k a hk ha hm4; exact absurd hm4 (by omega)
    | succ zn4 ih4 =>
      intro k a hk ha hm4
      refine z_iload_n C 0 dX7_allOnWay_4 rfl ?_
      refine z_aload_n C 2 dX7_allOnWay_5 rfl ?_
      refine z_iload_n C 3 dX7_allOnWay_6 rfl ?_
      refine z_callVi C [0, 1] [(hM, .inr (7, [.ref aS, .ref aPa, .int (z_I kn), .ref aSl, .ref aSv, .ref aPd, .int (z_I ln)])), (aS, z_ai cI 712 f)] [.int (z_I b)] [.int (z_I k)] (c_X7_stages l D cI cZ cO hM aS aPa aSl aSv aPd kn ln f b (by first | assumption | omega)) gX7_allOnWay_X7_stages rfl zd_X7_stages rfl (by decide) rfl rfl rfl (by decide) rfl rfl rfl (Nat.le_of_ble_eq_true rfl) (by decide) dX7_allOnWay_7 ?_
      refine z_icmp_ge C 28 dX7_allOnWay_10 (by decide) (by omega) (by omega) (fun hc1 => ?_) (fun hc1 => ?_)
      · skip
        obtain rfl : k = f b := by omega
        refine z_iload_n C 1 dX7_allOnWay_28 rfl ?_
        exact z_iret C hQ rfl ha dX7_allOnWay_29
      · skip
        refine z_iload_n C 1 dX7_allOnWay_13 rfl ?_
        refine z_aload_n C 2 dX7_allOnWay_14 rfl ?_
        refine z_iload_n C 3 dX7_allOnWay_15 rfl ?_
        refine z_iload_n C 0 dX7_allOnWay_16 rfl ?_
        refine z_callVi C [0, 1] [(hM, .inr (7, [.ref aS, .ref aPa, .int (z_I kn), .ref aSl, .ref aSv, .ref aPd, .int (z_I ln)])), (aS, z_ai cI 712 f)] [.int (z_I b), .int (z_I k)] [.int (z_I a)] (c_X7_onWay l D cI cZ cO hM aS aPa aSl aSv aPd kn ln f b k (by first | assumption | omega) (by first | assumption | omega)) gX7_allOnWay_X7_onWay rfl zd_X7_onWay rfl (by decide) rfl rfl rfl (by decide) rfl rfl rfl (Nat.le_of_ble_eq_true rfl) (by decide) dX7_allOnWay_17 ?_
        refine z_iadd C dX7_allOnWay_20 ?_
        refine z_istore_n C [(2, .int (z_I (a + (z_it (fun i a => a + f (b + 24 + 21 * k + i)) 0 21)))), (3, .int (z_I k)), (0, .ref hM), (1, .int (z_I b))] dX7_allOnWay_21 (by decide) rfl ?_
        refine z_iinc C 1 [(3, .int (z_I (k + 1))), (2, .int (z_I (a + (z_it (fun i a => a + f (b + 24 + 21 * k + i)) 0 21)))), (0, .ref hM), (1, .int (z_I b))] dX7_allOnWay_22 rfl (by decide) rfl ?_
        refine z_goto C 4 dX7_allOnWay_25 (by decide) ?_
        exact ih4 (k + 1) (a + (z_it (fun i a => a + f (b + 24 + 21 * k + i)) 0 21)) (by first | assumption | omega) (by rw [z_it_next _ _ hk.1, ← ha]) (by omega)
  exact loop4 ((f b).toNat + 1) 0 0 (by first | assumption | omega) rfl (by omega)
theorem zi_X7_turns_X7 : ∀ w ∈ u_ws RX7 TX7 7, w ∈ wsX7_turns := by decide +kernel
theorem zl_X7_turns_7 : Cond.fieldLink RX7 7 "RippleCountsModel" "s" "[I" ∈ wsX7_turns := by decide +kernel
theorem zd_X7_turns : yX7_turns.cls ≠ "java/lang/invoke/MethodHandle" ∧ yX7_turns.cls ≠ "java/lang/invoke/VarHandle" ∧ (parseMethodDescriptor yX7_turns.desc).map (fun d => d.parameters.length) = some 2 := by decide +kernel
set_option maxHeartbeats 4000000 in
set_option maxRecDepth 100000 in
theorem c_X7_turns (l : Launch) (D : va_G) (cI cZ cO : ClassId) (hM aS aPa aSl aSv aPd : Nat) (kn ln : Int) (f : Int → Int) (b k : Int) (hb : 0 ≤ b ∧ b ≤ 356) (hk : 0 ≤ k ∧ k < 5) (hd : 0 ≤ f (b + 9 + k) ∧ f (b + 9 + k) ≤ 20) : z_Mv l yX7_turns wsX7_turns 1 22 D (z_T cI cZ cO) [.ref hM, .int (z_I b), .int (z_I k)] ([(hM, .inr (7, [.ref aS, .ref aPa, .int (z_I kn), .ref aSl, .ref aSv, .ref aPd, .int (z_I ln)])), (aS, z_ai cI 712 f)]) ([(hM, .inr (7, [.ref aS, .ref aPa, .int (z_I kn), .ref aSl, .ref aSv, .ref aPd, .int (z_I ln)])), (aS, z_ai cI 712 (z_tn b k f))]) := by
  refine z_Mv_of (cc := cX7_turns) (nL := 3) (ret := none) (by decide +kernel) rfl (Nat.le_of_ble_eq_true rfl) ?_
  intro p e s m args below meth c A Q C hQ
  change z_V p l e { frames := 1, cells := 0, slots := 0, locals := 22 } s m args below meth c D A 3 0 0 Q ([(hM, .inr (7, [.ref aS, .ref aPa, .int (z_I kn), .ref aSl, .ref aSv, .ref aPd, .int (z_I ln)])), (aS, z_ai cI 712 f)]) 0 [(0, .ref hM), (1, .int (z_I b)), (2, .int (z_I k))] []
  refine z_aload_n C 0 dX7_turns_0 rfl ?_
  refine z_get C 0 0 zi_X7_turns_X7 rfl rfl (by decide) zl_X7_turns_7 rfl rfl dX7_turns_1 ?_
  refine z_iload_n C 1 dX7_turns_4 rfl ?_
  refine z_iload_n C 2 dX7_turns_5 rfl ?_
  refine z_aload_n C 0 dX7_turns_6 rfl ?_
  refine z_get C 0 0 zi_X7_turns_X7 rfl rfl (by decide) zl_X7_turns_7 rfl rfl dX7_turns_7 ?_
  refine z_iload_n C 1 dX7_turns_10 rfl ?_
  refine z_bipush C 9 dX7_turns_11 (by decide) ?_
  refine z_iadd C dX7_turns_13 ?_
  refine z_iload_n C 2 dX7_turns_14 rfl ?_
  refine z_iadd C dX7_turns_15 ?_
  refine z_iald C 1 0 rfl rfl (by decide) (by omega) dX7_turns_16 ?_
  refine z_callSi C [] [(hM, .inr (7, [.ref aS, .ref aPa, .int (z_I kn), .ref aSl, .ref aSv, .ref aPd, .int (z_I ln)])), (aS, z_ai cI 712 f)] [.int (z_I b), .int (z_I k), .int (z_I (f ((b + 9) + k)))] [.ref aS] (c_X7_due l D cI cZ cO b k (f ((b + 9) + k)) ) gX7_turns_X7_due rfl zd_X7_due rfl (by decide) rfl (by decide) rfl rfl rfl (Nat.le_of_ble_eq_true rfl) (by decide) dX7_turns_17 ?_
  refine z_dup2 C dX7_turns_20 rfl rfl ?_
  refine z_iald C 1 0 rfl rfl (by decide) (by omega) dX7_turns_21 ?_
  refine z_iconst C 1 dX7_turns_22 ?_
  refine z_iadd C dX7_turns_23 ?_
  refine z_iast C 1 0 ([(hM, .inr (7, [.ref aS, .ref aPa, .int (z_I kn), .ref aSl, .ref aSv, .ref aPd, .int (z_I ln)])), (aS, z_ai cI 712 (z_u f (b + 24 + 21 * k + (f ((b + 9) + k))) ((f (b + 24 + 21 * k + (f ((b + 9) + k)))) + 1)))]) rfl rfl (by decide) (by omega) rfl dX7_turns_24 ?_
  exact z_vret C hQ rfl dX7_turns_25
theorem zi_X7_clocks_X7 : ∀ w ∈ u_ws RX7 TX7 7, w ∈ wsX7_clocks := by decide +kernel
theorem zl_X7_clocks_7 : Cond.fieldLink RX7 7 "RippleCountsModel" "s" "[I" ∈ wsX7_clocks := by decide +kernel
theorem zd_X7_clocks : yX7_clocks.cls ≠ "java/lang/invoke/MethodHandle" ∧ yX7_clocks.cls ≠ "java/lang/invoke/VarHandle" ∧ (parseMethodDescriptor yX7_clocks.desc).map (fun d => d.parameters.length) = some 1 := by decide +kernel
set_option maxHeartbeats 4000000 in
set_option maxRecDepth 100000 in
theorem c_X7_clocks (l : Launch) (D : va_G) (cI cZ cO : ClassId) (hM aS aPa aSl aSv aPd : Nat) (kn ln : Int) (f : Int → Int) (b : Int) (hb : 0 ≤ b ∧ b ≤ 356) (hst : 0 ≤ f b ∧ f b ≤ 5) (hd : 0 ≤ f (b + 9) ∧ f (b + 9) ≤ 20) (hc : 0 ≤ f (b + 3) ∧ f (b + 3) < 1000000) : z_Mv l yX7_clocks wsX7_clocks 2 44 D (z_T cI cZ cO) [.ref hM, .int (z_I b)] ([(hM, .inr (7, [.ref aS, .ref aPa, .int (z_I kn), .ref aSl, .ref aSv, .ref aPd, .int (z_I ln)])), (aS, z_ai cI 712 f)]) ([(hM, .inr (7, [.ref aS, .ref aPa, .int (z_I kn), .ref aSl, .ref aSv, .ref aPd, .int (z_I ln)])), (aS, z_ai cI 712 (z_ck b f))]) := by
  refine z_Mv_of (cc := cX7_clocks) (nL := 2) (ret := none) (by decide +kernel) rfl (Nat.le_of_ble_eq_true rfl) ?_
  intro p e s m args below meth c A Q C hQ
  change z_V p l e { frames := 2, cells := 0, slots := 0, locals := 44 } s m args below meth c D A 2 0 0 Q ([(hM, .inr (7, [.ref aS, .ref aPa, .int (z_I kn), .ref aSl, .ref aSv, .ref aPd, .int (z_I ln)])), (aS, z_ai cI 712 f)]) 0 [(0, .ref hM), (1, .int (z_I b))] []
  have hp := z_p2_le hst
  refine z_aload_n C 0 dX7_clocks_0 rfl ?_
  refine z_get C 0 0 zi_X7_clocks_X7 rfl rfl (by decide) zl_X7_clocks_7 rfl rfl dX7_clocks_1 ?_
  refine z_iload_n C 1 dX7_clocks_4 rfl ?_
  refine z_iconst C 4 dX7_clocks_5 ?_
  refine z_iadd C dX7_clocks_6 ?_
  refine z_aload_n C 0 dX7_clocks_7 rfl ?_
  refine z_get C 0 0 zi_X7_clocks_X7 rfl rfl (by decide) zl_X7_clocks_7 rfl rfl dX7_clocks_8 ?_
  refine z_iload_n C 1 dX7_clocks_11 rfl ?_
  refine z_iconst C 2 dX7_clocks_12 ?_
  refine z_iadd C dX7_clocks_13 ?_
  refine z_iald C 1 0 rfl rfl (by decide) (by omega) dX7_clocks_14 ?_
  refine z_iast C 1 0 ([(hM, .inr (7, [.ref aS, .ref aPa, .int (z_I kn), .ref aSl, .ref aSv, .ref aPd, .int (z_I ln)])), (aS, z_ai cI 712 (z_u f (b + 4) (f (b + 2))))]) rfl rfl (by decide) (by omega) rfl dX7_clocks_15 ?_
  refine z_aload_n C 0 dX7_clocks_16 rfl ?_
  refine z_get C 0 0 zi_X7_clocks_X7 rfl rfl (by decide) zl_X7_clocks_7 rfl rfl dX7_clocks_17 ?_
  refine z_iload_n C 1 dX7_clocks_20 rfl ?_
  refine z_iconst C 3 dX7_clocks_21 ?_
  refine z_iadd C dX7_clocks_22 ?_
  refine z_aload_n C 0 dX7_clocks_23 rfl ?_
  refine z_get C 0 0 zi_X7_clocks_X7 rfl rfl (by decide) zl_X7_clocks_7 rfl rfl dX7_clocks_24 ?_
  refine z_iload_n C 1 dX7_clocks_27 rfl ?_
  refine z_iconst C 3 dX7_clocks_28 ?_
  have e3 : z_u f (b + 4) (f (b + 2)) (b + 3) = f (b + 3) := (by (repeat (first | rw [z_u_same] | rw [z_u_ne (by omega)])))
  have e0 : z_u f (b + 4) (f (b + 2)) b = f b := (by (repeat (first | rw [z_u_same] | rw [z_u_ne (by omega)])))
  refine z_iadd C dX7_clocks_29 ?_
  refine z_iald C 1 0 rfl rfl (by decide) (by omega) dX7_clocks_30 ?_
  refine z_iconst C 1 dX7_clocks_31 ?_
  refine z_iadd C dX7_clocks_32 ?_
  refine z_iconst C 1 dX7_clocks_33 ?_
  refine z_aload_n C 0 dX7_clocks_34 rfl ?_
  refine z_iload_n C 1 dX7_clocks_35 rfl ?_
  refine z_callVi C [0, 1] [(hM, .inr (7, [.ref aS, .ref aPa, .int (z_I kn), .ref aSl, .ref aSv, .ref aPd, .int (z_I ln)])), (aS, z_ai cI 712 (z_u f (b + 4) (f (b + 2))))] [.int (z_I b)] [.int (z_I 1), .int (z_I (((z_u f (b + 4) (f (b + 2))) (b + 3)) + 1)), .int (z_I (b + 3)), .ref aS] (c_X7_stages l D cI cZ cO hM aS aPa aSl aSv aPd kn ln (z_u f (b + 4) (f (b + 2))) b (by first | assumption | omega)) gX7_clocks_X7_stages rfl zd_X7_stages rfl (by decide) rfl rfl rfl (by decide) rfl rfl rfl (Nat.le_of_ble_eq_true rfl) (by decide) dX7_clocks_36 ?_
  refine z_ishl C (z_p2 ((z_u f (b + 4) (f (b + 2))) b)) dX7_clocks_39 (z_shl1 (by omega)) ?_
  refine z_irem C dX7_clocks_40 (by omega) (by rw [e0]; omega) ?_
  refine z_iast C 1 0 ([(hM, .inr (7, [.ref aS, .ref aPa, .int (z_I kn), .ref aSl, .ref aSv, .ref aPd, .int (z_I ln)])), (aS, z_ai cI 712 (z_u (z_u f (b + 4) (f (b + 2))) (b + 3) ((((z_u f (b + 4) (f (b + 2))) (b + 3)) + 1) % (z_p2 ((z_u f (b + 4) (f (b + 2))) b)))))]) rfl rfl (by decide) (by omega) rfl dX7_clocks_41 ?_
  refine z_aload_n C 0 dX7_clocks_42 rfl ?_
  refine z_iload_n C 1 dX7_clocks_43 rfl ?_
  refine z_iconst C 0 dX7_clocks_44 ?_
  have e9 : z_u (z_u f (b + 4) (f (b + 2))) (b + 3) ((z_u f (b + 4) (f (b + 2)) (b + 3) + 1) % z_p2 (z_u f (b + 4) (f (b + 2)) b)) (b + 9 + 0) = f (b + 9) := by (repeat rw [z_u_ne (by omega)]); congr 1; omega
  refine z_callVv C [0, 1] [(hM, .inr (7, [.ref aS, .ref aPa, .int (z_I kn), .ref aSl, .ref aSv, .ref aPd, .int (z_I ln)])), (aS, z_ai cI 712 (z_tn b 0 (z_u (z_u f (b + 4) (f (b + 2))) (b + 3) ((((z_u f (b + 4) (f (b + 2))) (b + 3)) + 1) % (z_p2 ((z_u f (b + 4) (f (b + 2))) b))))))] [.int (z_I b), .int (z_I 0)] [] (c_X7_turns l D cI cZ cO hM aS aPa aSl aSv aPd kn ln (z_u (z_u f (b + 4) (f (b + 2))) (b + 3) ((((z_u f (b + 4) (f (b + 2))) (b + 3)) + 1) % (z_p2 ((z_u f (b + 4) (f (b + 2))) b)))) b 0 (by first | assumption | omega) (by first | assumption | omega) (by rw [e9]; exact hd)) gX7_clocks_X7_turns rfl zd_X7_turns rfl (by decide) rfl rfl rfl (by decide) rfl rfl rfl (Nat.le_of_ble_eq_true rfl) (by decide) dX7_clocks_45 ?_
  exact z_vret C hQ rfl dX7_clocks_48
theorem zi_X7_done_X7 : ∀ w ∈ u_ws RX7 TX7 7, w ∈ wsX7_done := by decide +kernel
theorem zl_X7_done_7 : Cond.fieldLink RX7 7 "RippleCountsModel" "s" "[I" ∈ wsX7_done := by decide +kernel
theorem zd_X7_done : yX7_done.cls ≠ "java/lang/invoke/MethodHandle" ∧ yX7_done.cls ≠ "java/lang/invoke/VarHandle" ∧ (parseMethodDescriptor yX7_done.desc).map (fun d => d.parameters.length) = some 2 := by decide +kernel
set_option maxHeartbeats 4000000 in
set_option maxRecDepth 100000 in
theorem c_X7_done (l : Launch) (D : va_G) (cI cZ cO : ClassId) (hM aS aPa aSl aSv aPd : Nat) (kn ln : Int) (f : Int → Int) (b k : Int) (hb : 0 ≤ b ∧ b ≤ 356) (hst : 0 ≤ f b ∧ f b ≤ 5) (hk : 0 ≤ k ∧ k < 5) (ho : f (b + 14 + k) = 0 ∨ f (b + 14 + k) = 1) (hd : 0 ≤ f (b + 9 + (k + 1)) ∧ f (b + 9 + (k + 1)) ≤ 20) : z_Mv l yX7_done wsX7_done 2 44 D (z_T cI cZ cO) [.ref hM, .int (z_I b), .int (z_I k)] ([(hM, .inr (7, [.ref aS, .ref aPa, .int (z_I kn), .ref aSl, .ref aSv, .ref aPd, .int (z_I ln)])), (aS, z_ai cI 712 f)]) ([(hM, .inr (7, [.ref aS, .ref aPa, .int (z_I kn), .ref aSl, .ref aSv, .ref aPd, .int (z_I ln)])), (aS, z_ai cI 712 (z_dn b k f))]) := by
  refine z_Mv_of (cc := cX7_done) (nL := 3) (ret := none) (by decide +kernel) rfl (Nat.le_of_ble_eq_true rfl) ?_
  intro p e s m args below meth c A Q C hQ
  change z_V p l e { frames := 2, cells := 0, slots := 0, locals := 44 } s m args below meth c D A 3 0 0 Q ([(hM, .inr (7, [.ref aS, .ref aPa, .int (z_I kn), .ref aSl, .ref aSv, .ref aPd, .int (z_I ln)])), (aS, z_ai cI 712 f)]) 0 [(0, .ref hM), (1, .int (z_I b)), (2, .int (z_I k))] []
  refine z_aload_n C 0 dX7_done_0 rfl ?_
  refine z_get C 0 0 zi_X7_done_X7 rfl rfl (by decide) zl_X7_done_7 rfl rfl dX7_done_1 ?_
  refine z_iload_n C 1 dX7_done_4 rfl ?_
  refine z_bipush C 14 dX7_done_5 (by decide) ?_
  refine z_iadd C dX7_done_7 ?_
  refine z_iload_n C 2 dX7_done_8 rfl ?_
  refine z_iadd C dX7_done_9 ?_
  refine z_iconst C 1 dX7_done_10 ?_
  refine z_aload_n C 0 dX7_done_11 rfl ?_
  refine z_get C 0 0 zi_X7_done_X7 rfl rfl (by decide) zl_X7_done_7 rfl rfl dX7_done_12 ?_
  refine z_iload_n C 1 dX7_done_15 rfl ?_
  refine z_bipush C 14 dX7_done_16 (by decide) ?_
  refine z_iadd C dX7_done_18 ?_
  refine z_iload_n C 2 dX7_done_19 rfl ?_
  refine z_iadd C dX7_done_20 ?_
  refine z_iald C 1 0 rfl rfl (by decide) (by omega) dX7_done_21 ?_
  refine z_isub C dX7_done_22 ?_
  refine z_iast C 1 0 ([(hM, .inr (7, [.ref aS, .ref aPa, .int (z_I kn), .ref aSl, .ref aSv, .ref aPd, .int (z_I ln)])), (aS, z_ai cI 712 (z_u f ((b + 14) + k) (1 - (f ((b + 14) + k)))))]) rfl rfl (by decide) (by omega) rfl dX7_done_23 ?_
  refine z_aload_n C 0 dX7_done_24 rfl ?_
  refine z_get C 0 0 zi_X7_done_X7 rfl rfl (by decide) zl_X7_done_7 rfl rfl dX7_done_25 ?_
  refine z_iload_n C 1 dX7_done_28 rfl ?_
  refine z_bipush C 19 dX7_done_29 (by decide) ?_
  refine z_iadd C dX7_done_31 ?_
  refine z_iload_n C 2 dX7_done_32 rfl ?_
  refine z_iadd C dX7_done_33 ?_
  refine z_dup2 C dX7_done_34 rfl rfl ?_
  refine z_iald C 1 0 rfl rfl (by decide) (by omega) dX7_done_35 ?_
  refine z_iconst C 1 dX7_done_36 ?_
  refine z_iadd C dX7_done_37 ?_
  refine z_iast C 1 0 ([(hM, .inr (7, [.ref aS, .ref aPa, .int (z_I kn), .ref aSl, .ref aSv, .ref aPd, .int (z_I ln)])), (aS, z_ai cI 712 (z_u (z_u f ((b + 14) + k) (1 - (f ((b + 14) + k)))) ((b + 19) + k) (((z_u f ((b + 14) + k) (1 - (f ((b + 14) + k)))) ((b + 19) + k)) + 1)))]) rfl rfl (by decide) (by omega) rfl dX7_done_38 ?_
  refine z_aload_n C 0 dX7_done_39 rfl ?_
  refine z_get C 0 0 zi_X7_done_X7 rfl rfl (by decide) zl_X7_done_7 rfl rfl dX7_done_40 ?_
  refine z_iload_n C 1 dX7_done_43 rfl ?_
  refine z_bipush C 14 dX7_done_44 (by decide) ?_
  refine z_iadd C dX7_done_46 ?_
  refine z_iload_n C 2 dX7_done_47 rfl ?_
  refine z_iadd C dX7_done_48 ?_
  refine z_iald C 1 0 rfl rfl (by decide) (by omega) dX7_done_49 ?_
  have e14 : (z_u (z_u f (b + 14 + k) (1 - f (b + 14 + k))) (b + 19 + k) ((z_u f (b + 14 + k) (1 - f (b + 14 + k))) (b + 19 + k) + 1)) (b + 14 + k) = 1 - f (b + 14 + k) := (by (repeat (first | rw [z_u_same] | rw [z_u_ne (by omega)])))
  have e0 : (z_u (z_u f (b + 14 + k) (1 - f (b + 14 + k))) (b + 19 + k) ((z_u f (b + 14 + k) (1 - f (b + 14 + k))) (b + 19 + k) + 1)) b = f b := (by (repeat (first | rw [z_u_same] | rw [z_u_ne (by omega)])))
  refine z_if_ne C 72 dX7_done_50 (by decide) (by rw [e14]; omega) (fun hc1 => ?_) (fun hc1 => ?_)
  · skip
    exact z_vret C hQ (by first | (rw [z_dn_1 (by rw [e14] at *; omega) (by rw [e0] at *; omega)]; done) | (rw [z_dn_2 (by first | (rw [e14] at *; omega) | (rw [e0] at *; omega))]; done)) dX7_done_72
  · skip
    refine z_iload_n C 2 dX7_done_53 rfl ?_
    refine z_iconst C 1 dX7_done_54 ?_
    refine z_iadd C dX7_done_55 ?_
    refine z_aload_n C 0 dX7_done_56 rfl ?_
    refine z_iload_n C 1 dX7_done_57 rfl ?_
    refine z_callVi C [0, 1] [(hM, .inr (7, [.ref aS, .ref aPa, .int (z_I kn), .ref aSl, .ref aSv, .ref aPd, .int (z_I ln)])), (aS, z_ai cI 712 (z_u (z_u f ((b + 14) + k) (1 - (f ((b + 14) + k)))) ((b + 19) + k) (((z_u f ((b + 14) + k) (1 - (f ((b + 14) + k)))) ((b + 19) + k)) + 1)))] [.int (z_I b)] [.int (z_I (k + 1))] (c_X7_stages l D cI cZ cO hM aS aPa aSl aSv aPd kn ln (z_u (z_u f ((b + 14) + k) (1 - (f ((b + 14) + k)))) ((b + 19) + k) (((z_u f ((b + 14) + k) (1 - (f ((b + 14) + k)))) ((b + 19) + k)) + 1)) b (by first | assumption | omega)) gX7_done_X7_stages rfl zd_X7_stages rfl (by decide) rfl rfl rfl (by decide) rfl rfl rfl (Nat.le_of_ble_eq_true rfl) (by decide) dX7_done_58 ?_
    refine z_icmp_ge C 72 dX7_done_61 (by decide) (by omega) (by rw [e0]; omega) (fun hc2 => ?_) (fun hc2 => ?_)
    · skip
      exact z_vret C hQ (by first | (rw [z_dn_1 (by rw [e14] at *; omega) (by rw [e0] at *; omega)]; done) | (rw [z_dn_2 (by first | (rw [e14] at *; omega) | (rw [e0] at *; omega))]; done)) dX7_done_72
    · skip
      refine z_aload_n C 0 dX7_done_64 rfl ?_
      refine z_iload_n C 1 dX7_done_65 rfl ?_
      refine z_iload_n C 2 dX7_done_66 rfl ?_
      refine z_iconst C 1 dX7_done_67 ?_
      refine z_iadd C dX7_done_68 ?_
      have e9 : (z_u (z_u f (b + 14 + k) (1 - f (b + 14 + k))) (b + 19 + k) ((z_u f (b + 14 + k) (1 - f (b + 14 + k))) (b + 19 + k) + 1)) (b + 9 + (k + 1)) = f (b + 9 + (k + 1)) := (by (repeat (first | rw [z_u_same] | rw [z_u_ne (by omega)])))
      refine z_callVv C [0, 1] [(hM, .inr (7, [.ref aS, .ref aPa, .int (z_I kn), .ref aSl, .ref aSv, .ref aPd, .int (z_I ln)])), (aS, z_ai cI 712 (z_tn b (k + 1) (z_u (z_u f ((b + 14) + k) (1 - (f ((b + 14) + k)))) ((b + 19) + k) (((z_u f ((b + 14) + k) (1 - (f ((b + 14) + k)))) ((b + 19) + k)) + 1))))] [.int (z_I b), .int (z_I (k + 1))] [] (c_X7_turns l D cI cZ cO hM aS aPa aSl aSv aPd kn ln (z_u (z_u f ((b + 14) + k) (1 - (f ((b + 14) + k)))) ((b + 19) + k) (((z_u f ((b + 14) + k) (1 - (f ((b + 14) + k)))) ((b + 19) + k)) + 1)) b (k + 1) (by first | assumption | omega) (by rw [e0] at *; omega) (by rw [e9]; exact hd)) gX7_done_X7_turns rfl zd_X7_turns rfl (by decide) rfl rfl rfl (by decide) rfl rfl rfl (Nat.le_of_ble_eq_true rfl) (by decide) dX7_done_69 ?_
      exact z_vret C hQ (by first | (rw [z_dn_1 (by rw [e14] at *; omega) (by rw [e0] at *; omega)]; done) | (rw [z_dn_2 (by first | (rw [e14] at *; omega) | (rw [e0] at *; omega))]; done)) dX7_done_72
