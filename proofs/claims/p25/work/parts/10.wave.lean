theorem zd_J7_fill_53178 : yJ7_fill_53178.cls ≠ "java/lang/invoke/MethodHandle" ∧ yJ7_fill_53178.cls ≠ "java/lang/invoke/VarHandle" ∧ (parseMethodDescriptor yJ7_fill_53178.desc).map (fun d => d.parameters.length) = some 2 := by decide +kernel
set_option maxHeartbeats 4000000 in
set_option maxRecDepth 100000 in
theorem c_J7_fill_53178_5 (l : Launch) (D : va_G) (cI cZ cO : ClassId) (a : Nat) (f : Int → Int) (v : Int) : z_Mv l yJ7_fill_53178 wsJ7_fill_53178 0 0 D (z_T cI cZ cO) [.ref a, .int (z_I v)] ([(a, z_ai cI 5 f)]) ([(a, z_ai cI 5 (fun _ => v))]) := by
  refine z_Mv_of (cc := cJ7_fill_53178) (nL := 4) (ret := none) (by decide +kernel) rfl (Nat.le_of_ble_eq_true rfl) ?_
  intro p e s m args below meth c A Q C hQ
  change z_V p l e { frames := 0, cells := 0, slots := 0, locals := 0 } s m args below meth c D A 4 0 0 Q ([(a, z_ai cI 5 f)]) 0 [(0, .ref a), (1, .int (z_I v))] []
  refine z_iconst C 0 dJ7_fill_53178_0 ?_
  refine z_istore_n C [(2, .int (z_I 0)), (0, .ref a), (1, .int (z_I v))] dJ7_fill_53178_1 (by decide) rfl ?_
  refine z_aload_n C 1 dJ7_fill_53178_2 rfl ?_
  refine z_alen C 0 0 rfl rfl dJ7_fill_53178_3 ?_
  refine z_istore_n C [(3, .int (z_I 5)), (2, .int (z_I 0)), (0, .ref a), (1, .int (z_I v))] dJ7_fill_53178_4 (by decide) rfl ?_
  have loop5 : ∀ (zn : Nat) (k : Int) (g : Int → Int), 0 ≤ k ∧ k ≤ 5 → (∀ i : Int, 0 ≤ i → i < k → g i = v) → (5 - k) < (zn : Int) → z_V p l e { frames := 0, cells := 0, slots := 0, locals := 0 } s m args below meth c D A 4 0 0 Q [(a, z_ai cI 5 g)] 5 [(2, .int (z_I k)), (3, .int (z_I 5)), (0, .ref a), (1, .int (z_I v))] [] := by
    intro zn
    induction zn with
    | zero => intro k g hk hg hm5; exact absurd hm5 (by omega)
    | succ zn5 ih5 =>
      intro k g hk hg hm5
      refine z_iload_n C 0 dJ7_fill_53178_5 rfl ?_
      refine z_iload_n C 1 dJ7_fill_53178_6 rfl ?_
      refine z_icmp_ge C 20 dJ7_fill_53178_7 (by decide) (by omega) (by omega) (fun hc1 => ?_) (fun hc1 => ?_)
      · skip
        refine z_arr (c := c) 0 (fun _ => v) [(a, z_ai cI 5 (fun _ => v))] rfl (fun i h1 h2 => hg i h1 (by omega)) rfl ?_
        exact z_vret C hQ rfl dJ7_fill_53178_20
      · skip
        refine z_aload_n C 2 dJ7_fill_53178_10 rfl ?_
        refine z_iload_n C 0 dJ7_fill_53178_11 rfl ?_
        refine z_iload_n C 3 dJ7_fill_53178_12 rfl ?_
        refine z_iast C 0 0 ([(a, z_ai cI 5 (z_u g k v))]) rfl rfl (by decide) (by omega) rfl dJ7_fill_53178_13 ?_
        refine z_iinc C 0 [(2, .int (z_I (k + 1))), (3, .int (z_I 5)), (0, .ref a), (1, .int (z_I v))] dJ7_fill_53178_14 rfl (by decide) rfl ?_
        refine z_goto C 5 dJ7_fill_53178_17 (by decide) ?_
        exact ih5 (k + 1) (z_u g k v) (by first | assumption | omega) (fun i h1 h2 => by by_cases h3 : i = k; (· subst h3; exact z_u_same _ _ _); (· rw [z_u_ne h3]; exact hg i h1 (by omega))) (by omega)
  refine z_lsub [(2, .int (z_I 0)), (3, .int (z_I 5)), (0, .ref a), (1, .int (z_I v))] [1, 0, 2, 3] rfl ?_
  exact loop5 6 0 f (by first | assumption | omega) (fun i h1 h2 => absurd h1 (by omega)) (by omega)
set_option maxHeartbeats 4000000 in
set_option maxRecDepth 100000 in
theorem c_J7_fill_53178_32 (l : Launch) (D : va_G) (cI cZ cO : ClassId) (a : Nat) (f : Int → Int) (v : Int) : z_Mv l yJ7_fill_53178 wsJ7_fill_53178 0 0 D (z_T cI cZ cO) [.ref a, .int (z_I v)] ([(a, z_ai cI 32 f)]) ([(a, z_ai cI 32 (fun _ => v))]) := by
  refine z_Mv_of (cc := cJ7_fill_53178) (nL := 4) (ret := none) (by decide +kernel) rfl (Nat.le_of_ble_eq_true rfl) ?_
  intro p e s m args below meth c A Q C hQ
  change z_V p l e { frames := 0, cells := 0, slots := 0, locals := 0 } s m args below meth c D A 4 0 0 Q ([(a, z_ai cI 32 f)]) 0 [(0, .ref a), (1, .int (z_I v))] []
  refine z_iconst C 0 dJ7_fill_53178_0 ?_
  refine z_istore_n C [(2, .int (z_I 0)), (0, .ref a), (1, .int (z_I v))] dJ7_fill_53178_1 (by decide) rfl ?_
  refine z_aload_n C 1 dJ7_fill_53178_2 rfl ?_
  refine z_alen C 0 0 rfl rfl dJ7_fill_53178_3 ?_
  refine z_istore_n C [(3, .int (z_I 32)), (2, .int (z_I 0)), (0, .ref a), (1, .int (z_I v))] dJ7_fill_53178_4 (by decide) rfl ?_
  have loop5 : ∀ (zn : Nat) (k : Int) (g : Int → Int), 0 ≤ k ∧ k ≤ 32 → (∀ i : Int, 0 ≤ i → i < k → g i = v) → (32 - k) < (zn : Int) → z_V p l e { frames := 0, cells := 0, slots := 0, locals := 0 } s m args below meth c D A 4 0 0 Q [(a, z_ai cI 32 g)] 5 [(2, .int (z_I k)), (3, .int (z_I 32)), (0, .ref a), (1, .int (z_I v))] [] := by
    intro zn
    induction zn with
    | zero => intro k g hk hg hm5; exact absurd hm5 (by omega)
    | succ zn5 ih5 =>
      intro k g hk hg hm5
      refine z_iload_n C 0 dJ7_fill_53178_5 rfl ?_
      refine z_iload_n C 1 dJ7_fill_53178_6 rfl ?_
      refine z_icmp_ge C 20 dJ7_fill_53178_7 (by decide) (by omega) (by omega) (fun hc1 => ?_) (fun hc1 => ?_)
      · skip
        refine z_arr (c := c) 0 (fun _ => v) [(a, z_ai cI 32 (fun _ => v))] rfl (fun i h1 h2 => hg i h1 (by omega)) rfl ?_
        exact z_vret C hQ rfl dJ7_fill_53178_20
      · skip
        refine z_aload_n C 2 dJ7_fill_53178_10 rfl ?_
        refine z_iload_n C 0 dJ7_fill_53178_11 rfl ?_
        refine z_iload_n C 3 dJ7_fill_53178_12 rfl ?_
        refine z_iast C 0 0 ([(a, z_ai cI 32 (z_u g k v))]) rfl rfl (by decide) (by omega) rfl dJ7_fill_53178_13 ?_
        refine z_iinc C 0 [(2, .int (z_I (k + 1))), (3, .int (z_I 32)), (0, .ref a), (1, .int (z_I v))] dJ7_fill_53178_14 rfl (by decide) rfl ?_
        refine z_goto C 5 dJ7_fill_53178_17 (by decide) ?_
        exact ih5 (k + 1) (z_u g k v) (by first | assumption | omega) (fun i h1 h2 => by by_cases h3 : i = k; (· subst h3; exact z_u_same _ _ _); (· rw [z_u_ne h3]; exact hg i h1 (by omega))) (by omega)
  refine z_lsub [(2, .int (z_I 0)), (3, .int (z_I 32)), (0, .ref a), (1, .int (z_I v))] [1, 0, 2, 3] rfl ?_
  exact loop5 33 0 f (by first | assumption | omega) (fun i h1 h2 => absurd h1 (by omega)) (by omega)
set_option maxHeartbeats 4000000 in
set_option maxRecDepth 100000 in
theorem c_J7_fill_53178_105 (l : Launch) (D : va_G) (cI cZ cO : ClassId) (a : Nat) (f : Int → Int) (v : Int) : z_Mv l yJ7_fill_53178 wsJ7_fill_53178 0 0 D (z_T cI cZ cO) [.ref a, .int (z_I v)] ([(a, z_ai cI 105 f)]) ([(a, z_ai cI 105 (fun _ => v))]) := by
  refine z_Mv_of (cc := cJ7_fill_53178) (nL := 4) (ret := none) (by decide +kernel) rfl (Nat.le_of_ble_eq_true rfl) ?_
  intro p e s m args below meth c A Q C hQ
  change z_V p l e { frames := 0, cells := 0, slots := 0, locals := 0 } s m args below meth c D A 4 0 0 Q ([(a, z_ai cI 105 f)]) 0 [(0, .ref a), (1, .int (z_I v))] []
  refine z_iconst C 0 dJ7_fill_53178_0 ?_
  refine z_istore_n C [(2, .int (z_I 0)), (0, .ref a), (1, .int (z_I v))] dJ7_fill_53178_1 (by decide) rfl ?_
  refine z_aload_n C 1 dJ7_fill_53178_2 rfl ?_
  refine z_alen C 0 0 rfl rfl dJ7_fill_53178_3 ?_
  refine z_istore_n C [(3, .int (z_I 105)), (2, .int (z_I 0)), (0, .ref a), (1, .int (z_I v))] dJ7_fill_53178_4 (by decide) rfl ?_
  have loop5 : ∀ (zn : Nat) (k : Int) (g : Int → Int), 0 ≤ k ∧ k ≤ 105 → (∀ i : Int, 0 ≤ i → i < k → g i = v) → (105 - k) < (zn : Int) → z_V p l e { frames := 0, cells := 0, slots := 0, locals := 0 } s m args below meth c D A 4 0 0 Q [(a, z_ai cI 105 g)] 5 [(2, .int (z_I k)), (3, .int (z_I 105)), (0, .ref a), (1, .int (z_I v))] [] := by
    intro zn
    induction zn with
    | zero => intro k g hk hg hm5; exact absurd hm5 (by omega)
    | succ zn5 ih5 =>
      intro k g hk hg hm5
      refine z_iload_n C 0 dJ7_fill_53178_5 rfl ?_
      refine z_iload_n C 1 dJ7_fill_53178_6 rfl ?_
      refine z_icmp_ge C 20 dJ7_fill_53178_7 (by decide) (by omega) (by omega) (fun hc1 => ?_) (fun hc1 => ?_)
      · skip
        refine z_arr (c := c) 0 (fun _ => v) [(a, z_ai cI 105 (fun _ => v))] rfl (fun i h1 h2 => hg i h1 (by omega)) rfl ?_
        exact z_vret C hQ rfl dJ7_fill_53178_20
      · skip
        refine z_aload_n C 2 dJ7_fill_53178_10 rfl ?_
        refine z_iload_n C 0 dJ7_fill_53178_11 rfl ?_
        refine z_iload_n C 3 dJ7_fill_53178_12 rfl ?_
        refine z_iast C 0 0 ([(a, z_ai cI 105 (z_u g k v))]) rfl rfl (by decide) (by omega) rfl dJ7_fill_53178_13 ?_
        refine z_iinc C 0 [(2, .int (z_I (k + 1))), (3, .int (z_I 105)), (0, .ref a), (1, .int (z_I v))] dJ7_fill_53178_14 rfl (by decide) rfl ?_
        refine z_goto C 5 dJ7_fill_53178_17 (by decide) ?_
        exact ih5 (k + 1) (z_u g k v) (by first | assumption | omega) (fun i h1 h2 => by by_cases h3 : i = k; (· subst h3; exact z_u_same _ _ _); (· rw [z_u_ne h3]; exact hg i h1 (by omega))) (by omega)
  refine z_lsub [(2, .int (z_I 0)), (3, .int (z_I 105)), (0, .ref a), (1, .int (z_I v))] [1, 0, 2, 3] rfl ?_
  exact loop5 106 0 f (by first | assumption | omega) (fun i h1 h2 => absurd h1 (by omega)) (by omega)
theorem zi_X5_hasStage_X5 : ∀ w ∈ u_ws RX5 TX5 7, w ∈ wsX5_hasStage := by decide +kernel
theorem zl_X5_hasStage_9 : Cond.fieldLink RX5 9 "RippleCounts$Wave" "stages" "I" ∈ wsX5_hasStage := by decide +kernel
theorem zd_X5_hasStage : yX5_hasStage.cls ≠ "java/lang/invoke/MethodHandle" ∧ yX5_hasStage.cls ≠ "java/lang/invoke/VarHandle" ∧ (parseMethodDescriptor yX5_hasStage.desc).map (fun d => d.parameters.length) = some 1 := by decide +kernel
set_option maxHeartbeats 4000000 in
set_option maxRecDepth 100000 in
theorem c_X5_hasStage (l : Launch) (D : va_G) (cI cZ cO : ClassId) (hW aD aN aU : Nat) (t st sh ow : Int) (dl dn du : Int → Int) (k : Int) (hk : -2147483648 ≤ k ∧ k < 2147483648) (hst : 0 ≤ st ∧ st ≤ 5) : z_Mi l yX5_hasStage wsX5_hasStage 0 0 D (z_T cI cZ cO) [.ref hW, .int (z_I k)] ([(hW, .inr (5, [.int (z_I t), .int (z_I st), .int (z_I sh), .int (z_I ow), .ref aD, .ref aN, .ref aU])), (aD, z_ai cI 5 dl), (aN, z_ai cI 5 dn), (aU, z_ai cI 105 du)]) ([(hW, .inr (5, [.int (z_I t), .int (z_I st), .int (z_I sh), .int (z_I ow), .ref aD, .ref aN, .ref aU])), (aD, z_ai cI 5 dl), (aN, z_ai cI 5 dn), (aU, z_ai cI 105 du)]) (if 0 ≤ k ∧ k < st then 1 else 0) := by
  refine z_Mi_of (cc := cX5_hasStage) (nL := 2) (ret := (some .boolean)) (by decide +kernel) rfl (Nat.le_of_ble_eq_true rfl) ?_
  intro p e s m args below meth c A Q C hQ
  change z_V p l e { frames := 0, cells := 0, slots := 0, locals := 0 } s m args below meth c D A 2 0 0 Q ([(hW, .inr (5, [.int (z_I t), .int (z_I st), .int (z_I sh), .int (z_I ow), .ref aD, .ref aN, .ref aU])), (aD, z_ai cI 5 dl), (aN, z_ai cI 5 dn), (aU, z_ai cI 105 du)]) 0 [(0, .ref hW), (1, .int (z_I k))] []
  refine z_iload_n C 1 dX5_hasStage_0 rfl ?_
  refine z_if_lt C 16 dX5_hasStage_1 (by decide) (by omega) (fun hc1 => ?_) (fun hc1 => ?_)
  · skip
    refine z_iconst C 0 dX5_hasStage_16 ?_
    exact z_zret C hQ rfl (by first | rfl | omega | ((repeat' split) <;> omega)) (by omega) dX5_hasStage_17
  · skip
    refine z_iload_n C 1 dX5_hasStage_4 rfl ?_
    refine z_aload_n C 0 dX5_hasStage_5 rfl ?_
    refine z_get C 0 1 zi_X5_hasStage_X5 rfl rfl (by decide) zl_X5_hasStage_9 rfl rfl dX5_hasStage_6 ?_
    refine z_icmp_ge C 16 dX5_hasStage_9 (by decide) (by omega) (by omega) (fun hc2 => ?_) (fun hc2 => ?_)
    · skip
      refine z_iconst C 0 dX5_hasStage_16 ?_
      exact z_zret C hQ rfl (by first | rfl | omega | ((repeat' split) <;> omega)) (by omega) dX5_hasStage_17
    · skip
      refine z_iconst C 1 dX5_hasStage_12 ?_
      refine z_goto C 17 dX5_hasStage_13 (by decide) ?_
      exact z_zret C hQ rfl (by first | rfl | omega | ((repeat' split) <;> omega)) (by omega) dX5_hasStage_17
theorem zi_X5_output_X5 : ∀ w ∈ u_ws RX5 TX5 7, w ∈ wsX5_output := by decide +kernel
theorem zl_X5_output_34 : Cond.fieldLink RX5 34 "RippleCounts$Wave" "shows" "I" ∈ wsX5_output := by decide +kernel
theorem zd_X5_output : yX5_output.cls ≠ "java/lang/invoke/MethodHandle" ∧ yX5_output.cls ≠ "java/lang/invoke/VarHandle" ∧ (parseMethodDescriptor yX5_output.desc).map (fun d => d.parameters.length) = some 1 := by decide +kernel
set_option maxHeartbeats 4000000 in
set_option maxRecDepth 100000 in
theorem c_X5_output (l : Launch) (D : va_G) (cI cZ cO : ClassId) (hW aD aN aU : Nat) (t st sh ow : Int) (dl dn du : Int → Int) (k : Int) (hk : 0 ≤ k ∧ k < 5) (hsh : 0 ≤ sh ∧ sh < 32) : z_Mi l yX5_output wsX5_output 0 0 D (z_T cI cZ cO) [.ref hW, .int (z_I k)] ([(hW, .inr (5, [.int (z_I t), .int (z_I st), .int (z_I sh), .int (z_I ow), .ref aD, .ref aN, .ref aU])), (aD, z_ai cI 5 dl), (aN, z_ai cI 5 dn), (aU, z_ai cI 105 du)]) ([(hW, .inr (5, [.int (z_I t), .int (z_I st), .int (z_I sh), .int (z_I ow), .ref aD, .ref aN, .ref aU])), (aD, z_ai cI 5 dl), (aN, z_ai cI 5 dn), (aU, z_ai cI 105 du)]) (z_bit sh k) := by
  refine z_Mi_of (cc := cX5_output) (nL := 2) (ret := (some .int)) (by decide +kernel) rfl (Nat.le_of_ble_eq_true rfl) ?_
  intro p e s m args below meth c A Q C hQ
  change z_V p l e { frames := 0, cells := 0, slots := 0, locals := 0 } s m args below meth c D A 2 0 0 Q ([(hW, .inr (5, [.int (z_I t), .int (z_I st), .int (z_I sh), .int (z_I ow), .ref aD, .ref aN, .ref aU])), (aD, z_ai cI 5 dl), (aN, z_ai cI 5 dn), (aU, z_ai cI 105 du)]) 0 [(0, .ref hW), (1, .int (z_I k))] []
  refine z_aload_n C 0 dX5_output_0 rfl ?_
  refine z_get C 0 2 zi_X5_output_X5 rfl rfl (by decide) zl_X5_output_34 rfl rfl dX5_output_1 ?_
  refine z_iload_n C 1 dX5_output_4 rfl ?_
  refine z_ishr C (sh / z_p2 k) dX5_output_5 (z_shr (by omega) (by omega)) ?_
  refine z_iconst C 1 dX5_output_6 ?_
  refine z_iand C (sh / z_p2 k % 2) dX5_output_7 (z_and1 ⟨Int.ediv_nonneg hsh.1 (Int.le_of_lt (z_p2_pos k)), by have := Int.ediv_le_self (z_p2 k) hsh.1; omega⟩) ?_
  exact z_iret C hQ rfl rfl dX5_output_8
theorem zi_X5_begin_X5 : ∀ w ∈ u_ws RX5 TX5 7, w ∈ wsX5_begin := by decide +kernel
theorem zl_X5_begin_15 : Cond.fieldLink RX5 15 "RippleCounts$Wave" "delays" "[I" ∈ wsX5_begin := by decide +kernel
theorem zl_X5_begin_22 : Cond.fieldLink RX5 22 "RippleCounts$Wave" "due" "[I" ∈ wsX5_begin := by decide +kernel
theorem zl_X5_begin_31 : Cond.fieldLink RX5 31 "RippleCounts$Wave" "time" "I" ∈ wsX5_begin := by decide +kernel
theorem zl_X5_begin_37 : Cond.fieldLink RX5 37 "RippleCounts$Wave" "onTheirWay" "I" ∈ wsX5_begin := by decide +kernel
theorem zd_X5_begin : yX5_begin.cls ≠ "java/lang/invoke/MethodHandle" ∧ yX5_begin.cls ≠ "java/lang/invoke/VarHandle" ∧ (parseMethodDescriptor yX5_begin.desc).map (fun d => d.parameters.length) = some 2 := by decide +kernel
set_option maxHeartbeats 4000000 in
set_option maxRecDepth 100000 in
theorem c_X5_begin (l : Launch) (D : va_G) (cI cZ cO : ClassId) (hW aD aN aU : Nat) (t st sh ow : Int) (dl dn du : Int → Int) (k x : Int) (hk : 0 ≤ k ∧ k < 5) (ht : 0 ≤ t ∧ t < 1000000) (hd : 1 ≤ dl k ∧ dl k ≤ 20) : z_Mv l yX5_begin wsX5_begin 0 0 D (z_T cI cZ cO) [.ref hW, .int (z_I k), .int (z_I x)] ([(hW, .inr (5, [.int (z_I t), .int (z_I st), .int (z_I sh), .int (z_I ow), .ref aD, .ref aN, .ref aU])), (aD, z_ai cI 5 dl), (aN, z_ai cI 5 dn), (aU, z_ai cI 105 du)]) ([(hW, .inr (5, [.int (z_I t), .int (z_I st), .int (z_I sh), .int (z_I (ow + x)), .ref aD, .ref aN, .ref aU])), (aD, z_ai cI 5 dl), (aN, z_ai cI 5 dn), (aU, z_ai cI 105 (z_bg t dl k x du))]) := by
  refine z_Mv_of (cc := cX5_begin) (nL := 3) (ret := none) (by decide +kernel) rfl (Nat.le_of_ble_eq_true rfl) ?_
  intro p e s m args below meth c A Q C hQ
  change z_V p l e { frames := 0, cells := 0, slots := 0, locals := 0 } s m args below meth c D A 3 0 0 Q ([(hW, .inr (5, [.int (z_I t), .int (z_I st), .int (z_I sh), .int (z_I ow), .ref aD, .ref aN, .ref aU])), (aD, z_ai cI 5 dl), (aN, z_ai cI 5 dn), (aU, z_ai cI 105 du)]) 0 [(0, .ref hW), (1, .int (z_I k)), (2, .int (z_I x))] []
  refine z_aload_n C 0 dX5_begin_0 rfl ?_
  refine z_get C 0 6 zi_X5_begin_X5 rfl rfl (by decide) zl_X5_begin_22 rfl rfl dX5_begin_1 ?_
  refine z_iload_n C 1 dX5_begin_4 rfl ?_
  refine z_bipush C 21 dX5_begin_5 (by decide) ?_
  refine z_imul C dX5_begin_7 ?_
  refine z_aload_n C 0 dX5_begin_8 rfl ?_
  refine z_get C 0 0 zi_X5_begin_X5 rfl rfl (by decide) zl_X5_begin_31 rfl rfl dX5_begin_9 ?_
  refine z_aload_n C 0 dX5_begin_12 rfl ?_
  refine z_get C 0 4 zi_X5_begin_X5 rfl rfl (by decide) zl_X5_begin_15 rfl rfl dX5_begin_13 ?_
  refine z_iload_n C 1 dX5_begin_16 rfl ?_
  refine z_iald C 1 0 rfl rfl (by decide) (by omega) dX5_begin_17 ?_
  refine z_iadd C dX5_begin_18 ?_
  refine z_bipush C 21 dX5_begin_19 (by decide) ?_
  refine z_irem C dX5_begin_21 (by omega) (by omega) ?_
  refine z_iadd C dX5_begin_22 ?_
  refine z_dup2 C dX5_begin_23 rfl rfl ?_
  refine z_iald C 3 0 rfl rfl (by decide) (by omega) dX5_begin_24 ?_
  refine z_iload_n C 2 dX5_begin_25 rfl ?_
  refine z_iadd C dX5_begin_26 ?_
  refine z_iast C 3 0 ([(hW, .inr (5, [.int (z_I t), .int (z_I st), .int (z_I sh), .int (z_I ow), .ref aD, .ref aN, .ref aU])), (aD, z_ai cI 5 dl), (aN, z_ai cI 5 dn), (aU, z_ai cI 105 (z_u du ((k * 21) + ((t + (dl k)) % 21)) ((du ((k * 21) + ((t + (dl k)) % 21))) + x)))]) rfl rfl (by decide) (by omega) rfl dX5_begin_27 ?_
  refine z_aload_n C 0 dX5_begin_28 rfl ?_
  refine z_dup C dX5_begin_29 rfl ?_
  refine z_get C 0 3 zi_X5_begin_X5 rfl rfl (by decide) zl_X5_begin_37 rfl rfl dX5_begin_30 ?_
  refine z_iload_n C 2 dX5_begin_33 rfl ?_
  refine z_iadd C dX5_begin_34 ?_
  refine z_put C 0 3 ([(hW, .inr (5, [.int (z_I t), .int (z_I st), .int (z_I sh), .int (z_I (ow + x)), .ref aD, .ref aN, .ref aU])), (aD, z_ai cI 5 dl), (aN, z_ai cI 5 dn), (aU, z_ai cI 105 (z_u du ((k * 21) + ((t + (dl k)) % 21)) ((du ((k * 21) + ((t + (dl k)) % 21))) + x)))]) zi_X5_begin_X5 tyX5_ok nmX5 rfl rfl (by decide) zl_X5_begin_37 rfl rfl rfl rfl (Nat.le_of_ble_eq_true rfl) rfl dX5_begin_35 ?_
  exact z_vret C hQ rfl dX5_begin_38
theorem zi_X5_turnOver_X5 : ∀ w ∈ u_ws RX5 TX5 7, w ∈ wsX5_turnOver := by decide +kernel
theorem zl_X5_turnOver_19 : Cond.fieldLink RX5 19 "RippleCounts$Wave" "done" "[I" ∈ wsX5_turnOver := by decide +kernel
theorem zl_X5_turnOver_34 : Cond.fieldLink RX5 34 "RippleCounts$Wave" "shows" "I" ∈ wsX5_turnOver := by decide +kernel
theorem zd_X5_turnOver : yX5_turnOver.cls ≠ "java/lang/invoke/MethodHandle" ∧ yX5_turnOver.cls ≠ "java/lang/invoke/VarHandle" ∧ (parseMethodDescriptor yX5_turnOver.desc).map (fun d => d.parameters.length) = some 2 := by decide +kernel
set_option maxHeartbeats 4000000 in
set_option maxRecDepth 100000 in
theorem c_X5_turnOver (l : Launch) (D : va_G) (cI cZ cO : ClassId) (hW aD aN aU : Nat) (t st sh ow : Int) (dl dn du : Int → Int) (k x : Int) (hk : 0 ≤ k ∧ k < 5) (hsh : 0 ≤ sh ∧ sh < 32) (hx : 0 ≤ x ∧ x < 1000000) : z_Mi l yX5_turnOver wsX5_turnOver 0 0 D (z_T cI cZ cO) [.ref hW, .int (z_I k), .int (z_I x)] ([(hW, .inr (5, [.int (z_I t), .int (z_I st), .int (z_I sh), .int (z_I ow), .ref aD, .ref aN, .ref aU])), (aD, z_ai cI 5 dl), (aN, z_ai cI 5 dn), (aU, z_ai cI 105 du)]) ([(hW, .inr (5, [.int (z_I t), .int (z_I st), .int (z_I (sh - z_bit sh k * z_p2 k + (z_bit sh k + x) % 2 * z_p2 k)), .int (z_I ow), .ref aD, .ref aN, .ref aU])), (aD, z_ai cI 5 dl), (aN, z_ai cI 5 (z_u dn k (dn k + x))), (aU, z_ai cI 105 du)]) ((z_bit sh k + x) / 2) := by
  refine z_Mi_of (cc := cX5_turnOver) (nL := 4) (ret := (some .int)) (by decide +kernel) rfl (Nat.le_of_ble_eq_true rfl) ?_
  intro p e s m args below meth c A Q C hQ
  change z_V p l e { frames := 0, cells := 0, slots := 0, locals := 0 } s m args below meth c D A 4 0 0 Q ([(hW, .inr (5, [.int (z_I t), .int (z_I st), .int (z_I sh), .int (z_I ow), .ref aD, .ref aN, .ref aU])), (aD, z_ai cI 5 dl), (aN, z_ai cI 5 dn), (aU, z_ai cI 105 du)]) 0 [(0, .ref hW), (1, .int (z_I k)), (2, .int (z_I x))] []
  have hb := z_bit01 sh k
  refine z_aload_n C 0 dX5_turnOver_0 rfl ?_
  refine z_get C 0 2 zi_X5_turnOver_X5 rfl rfl (by decide) zl_X5_turnOver_34 rfl rfl dX5_turnOver_1 ?_
  refine z_iload_n C 1 dX5_turnOver_4 rfl ?_
  refine z_ishr C (sh / z_p2 k) dX5_turnOver_5 (z_shr (by omega) (by omega)) ?_
  refine z_iconst C 1 dX5_turnOver_6 ?_
  refine z_iand C (z_bit sh k) dX5_turnOver_7 (z_and1 ⟨Int.ediv_nonneg hsh.1 (Int.le_of_lt (z_p2_pos k)), by have := Int.ediv_le_self (z_p2 k) hsh.1; omega⟩) ?_
  refine z_iload_n C 2 dX5_turnOver_8 rfl ?_
  refine z_iadd C dX5_turnOver_9 ?_
  refine z_istore_n C [(3, .int (z_I ((z_bit sh k) + x))), (0, .ref hW), (1, .int (z_I k)), (2, .int (z_I x))] dX5_turnOver_10 (by decide) rfl ?_
  refine z_aload_n C 1 dX5_turnOver_11 rfl ?_
  refine z_aload_n C 1 dX5_turnOver_12 rfl ?_
  refine z_get C 0 2 zi_X5_turnOver_X5 rfl rfl (by decide) zl_X5_turnOver_34 rfl rfl dX5_turnOver_13 ?_
  refine z_iconst C 1 dX5_turnOver_16 ?_
  refine z_iload_n C 2 dX5_turnOver_17 rfl ?_
  refine z_ishl C (z_p2 k) dX5_turnOver_18 (z_shl1 (by omega)) ?_
  refine z_iconst C (-1) dX5_turnOver_19 ?_
  refine z_ixor C (-1 - z_p2 k) dX5_turnOver_20 (z_xorm (by omega)) ?_
  refine z_iand C (sh - z_bit sh k * z_p2 k) dX5_turnOver_21 (z_andm (by omega) (by omega)) ?_
  refine z_iload_n C 0 dX5_turnOver_22 rfl ?_
  refine z_iconst C 1 dX5_turnOver_23 ?_
  refine z_iand C ((z_bit sh k + x) % 2) dX5_turnOver_24 (z_and1 (by omega)) ?_
  refine z_iload_n C 2 dX5_turnOver_25 rfl ?_
  refine z_ishl C ((z_bit sh k + x) % 2 * z_p2 k) dX5_turnOver_26 (z_shlb (by omega) (by omega)) ?_
  refine z_ior C (sh - z_bit sh k * z_p2 k + (z_bit sh k + x) % 2 * z_p2 k) dX5_turnOver_27 (z_orb (by omega) (by omega) (by omega)) ?_
  refine z_put C 0 2 ([(hW, .inr (5, [.int (z_I t), .int (z_I st), .int (z_I (sh - z_bit sh k * z_p2 k + (z_bit sh k + x) % 2 * z_p2 k)), .int (z_I ow), .ref aD, .ref aN, .ref aU])), (aD, z_ai cI 5 dl), (aN, z_ai cI 5 dn), (aU, z_ai cI 105 du)]) zi_X5_turnOver_X5 tyX5_ok nmX5 rfl rfl (by decide) zl_X5_turnOver_34 rfl rfl rfl rfl (Nat.le_of_ble_eq_true rfl) rfl dX5_turnOver_28 ?_
  refine z_aload_n C 1 dX5_turnOver_31 rfl ?_
  refine z_get C 0 5 zi_X5_turnOver_X5 rfl rfl (by decide) zl_X5_turnOver_19 rfl rfl dX5_turnOver_32 ?_
  refine z_iload_n C 2 dX5_turnOver_35 rfl ?_
  refine z_dup2 C dX5_turnOver_36 rfl rfl ?_
  refine z_iald C 2 0 rfl rfl (by decide) (by omega) dX5_turnOver_37 ?_
  refine z_iload_n C 3 dX5_turnOver_38 rfl ?_
  refine z_iadd C dX5_turnOver_39 ?_
  refine z_iast C 2 0 ([(hW, .inr (5, [.int (z_I t), .int (z_I st), .int (z_I (sh - z_bit sh k * z_p2 k + (z_bit sh k + x) % 2 * z_p2 k)), .int (z_I ow), .ref aD, .ref aN, .ref aU])), (aD, z_ai cI 5 dl), (aN, z_ai cI 5 (z_u dn k ((dn k) + x))), (aU, z_ai cI 105 du)]) rfl rfl (by decide) (by omega) rfl dX5_turnOver_40 ?_
  refine z_iload_n C 0 dX5_turnOver_41 rfl ?_
  refine z_iconst C 2 dX5_turnOver_42 ?_
  refine z_idiv C dX5_turnOver_43 (by omega) (by omega) ?_
  exact z_iret C hQ rfl (by first | rfl | omega | ((repeat' split) <;> omega)) dX5_turnOver_44
theorem zi_X5_turnDue_X5 : ∀ w ∈ u_ws RX5 TX5 7, w ∈ wsX5_turnDue := by decide +kernel
theorem zl_X5_turnDue_22 : Cond.fieldLink RX5 22 "RippleCounts$Wave" "due" "[I" ∈ wsX5_turnDue := by decide +kernel
theorem zl_X5_turnDue_31 : Cond.fieldLink RX5 31 "RippleCounts$Wave" "time" "I" ∈ wsX5_turnDue := by decide +kernel
theorem zl_X5_turnDue_37 : Cond.fieldLink RX5 37 "RippleCounts$Wave" "onTheirWay" "I" ∈ wsX5_turnDue := by decide +kernel
theorem zl_X5_turnDue_9 : Cond.fieldLink RX5 9 "RippleCounts$Wave" "stages" "I" ∈ wsX5_turnDue := by decide +kernel
theorem zd_X5_turnDue : yX5_turnDue.cls ≠ "java/lang/invoke/MethodHandle" ∧ yX5_turnDue.cls ≠ "java/lang/invoke/VarHandle" ∧ (parseMethodDescriptor yX5_turnDue.desc).map (fun d => d.parameters.length) = some 0 := by decide +kernel
set_option maxHeartbeats 4000000 in
set_option maxRecDepth 100000 in
theorem c_X5_turnDue (l : Launch) (D : va_G) (cI cZ cO : ClassId) (hW aD aN aU : Nat) (t st sh ow : Int) (dl dn du : Int → Int) (hst : 0 ≤ st ∧ st ≤ 5) (ht : 0 ≤ t ∧ t < 1000000) (hd : ∀ i : Int, 0 ≤ i → i < 5 → 1 ≤ dl i ∧ dl i ≤ 20) (hI : ∀ k : Int, 0 ≤ k → k ≤ st → (0 ≤ (z_it (z_tdS t st dl) (0, sh, ow, dn, du) k.toNat).2.1 ∧ (z_it (z_tdS t st dl) (0, sh, ow, dn, du) k.toNat).2.1 < 32) ∧ ∀ i : Int, 0 ≤ i → i < 105 → 0 ≤ (z_it (z_tdS t st dl) (0, sh, ow, dn, du) k.toNat).2.2.2.2 i ∧ (z_it (z_tdS t st dl) (0, sh, ow, dn, du) k.toNat).2.2.2.2 i < 1000000) : z_Mi l yX5_turnDue wsX5_turnDue 1 23 D (z_T cI cZ cO) [.ref hW] ([(hW, .inr (5, [.int (z_I t), .int (z_I st), .int (z_I sh), .int (z_I ow), .ref aD, .ref aN, .ref aU])), (aD, z_ai cI 5 dl), (aN, z_ai cI 5 dn), (aU, z_ai cI 105 du)]) ([(hW, .inr (5, [.int (z_I t), .int (z_I st), .int (z_I ((z_it (z_tdS t st dl) (0, sh, ow, dn, du) st.toNat).2.1)), .int (z_I ((z_it (z_tdS t st dl) (0, sh, ow, dn, du) st.toNat).2.2.1)), .ref aD, .ref aN, .ref aU])), (aD, z_ai cI 5 dl), (aN, z_ai cI 5 ((z_it (z_tdS t st dl) (0, sh, ow, dn, du) st.toNat).2.2.2.1)), (aU, z_ai cI 105 ((z_it (z_tdS t st dl) (0, sh, ow, dn, du) st.toNat).2.2.2.2))]) ((z_it (z_tdS t st dl) (0, sh, ow, dn, du) st.toNat).1) := by
  refine z_Mi_of (cc := cX5_turnDue) (nL := 6) (ret := (some .int)) (by decide +kernel) rfl (Nat.le_of_ble_eq_true rfl) ?_
  intro p e s m args below meth c A Q C hQ
  change z_V p l e { frames := 1, cells := 0, slots := 0, locals := 23 } s m args below meth c D A 6 0 0 Q ([(hW, .inr (5, [.int (z_I t), .int (z_I st), .int (z_I sh), .int (z_I ow), .ref aD, .ref aN, .ref aU])), (aD, z_ai cI 5 dl), (aN, z_ai cI 5 dn), (aU, z_ai cI 105 du)]) 0 [(0, .ref hW)] []
  refine z_iconst C 0 dX5_turnDue_0 ?_
  refine z_istore_n C [(1, .int (z_I 0)), (0, .ref hW)] dX5_turnDue_1 (by decide) rfl ?_
  refine z_iconst C 0 dX5_turnDue_2 ?_
  refine z_istore_n C [(2, .int (z_I 0)), (1, .int (z_I 0)), (0, .ref hW)] dX5_turnDue_3 (by decide) rfl ?_
  have loop4 : ∀ (zn : Nat) (k : Int) (r : z_R), 0 ≤ k ∧ k ≤ st → r = z_it (z_tdS t st dl) (0, sh, ow, dn, du) k.toNat → (st - k) < (zn : Int) → z_V p l e { frames := 1, cells := 0, slots := 0, locals := 23 } s m args below meth c D A 6 0 0 Q [(hW, .inr (5, [.int (z_I t), .int (z_I st), .int (z_I r.2.1), .int (z_I r.2.2.1), .ref aD, .ref aN, .ref aU])), (aD, z_ai cI 5 dl), (aN, z_ai cI 5 r.2.2.2.1), (aU, z_ai cI 105 r.2.2.2.2)] 4 [(2, .int (z_I k)), (1, .int (z_I r.1)), (0, .ref hW)] [] := by
    intro zn
    induction zn with
    | zero => intro k r hk hr hm4; exact absurd hm4 (by omega)
    | succ zn4 ih4 =>
      intro k r hk hr hm4
      have hJ := hI k hk.1 hk.2
      rw [← hr] at hJ
      have hsh := hJ.1
      refine z_iload_n C 0 dX5_turnDue_4 rfl ?_
      refine z_aload_n C 2 dX5_turnDue_5 rfl ?_
      refine z_get C 0 1 zi_X5_turnDue_X5 rfl rfl (by decide) zl_X5_turnDue_9 rfl rfl dX5_turnDue_6 ?_
      refine z_icmp_ge C 95 dX5_turnDue_9 (by decide) (by omega) (by omega) (fun hc1 => ?_) (fun hc1 => ?_)
      · skip
        obtain rfl : k = st := by omega
        subst hr
        refine z_iload_n C 1 dX5_turnDue_95 rfl ?_
        exact z_iret C hQ rfl rfl dX5_turnDue_96
      · skip
        have hM := hJ.2 (k * 21 + t % 21) (by omega) (by omega)
        have hdk := hd k hk.1 (by omega)
        have hbb := z_bit01 r.2.1 k
        refine z_iload_n C 0 dX5_turnDue_12 rfl ?_
        refine z_bipush C 21 dX5_turnDue_13 (by decide) ?_
        refine z_imul C dX5_turnDue_15 ?_
        refine z_aload_n C 2 dX5_turnDue_16 rfl ?_
        refine z_get C 0 0 zi_X5_turnDue_X5 rfl rfl (by decide) zl_X5_turnDue_31 rfl rfl dX5_turnDue_17 ?_
        refine z_bipush C 21 dX5_turnDue_20 (by decide) ?_
        refine z_irem C dX5_turnDue_22 (by omega) (by omega) ?_
        refine z_iadd C dX5_turnDue_23 ?_
        refine z_istore_n C [(3, .int (z_I ((k * 21) + (t % 21)))), (2, .int (z_I k)), (1, .int (z_I r.1)), (0, .ref hW)] dX5_turnDue_24 (by decide) rfl ?_
        refine z_aload_n C 3 dX5_turnDue_25 rfl ?_
        refine z_get C 0 6 zi_X5_turnDue_X5 rfl rfl (by decide) zl_X5_turnDue_22 rfl rfl dX5_turnDue_26 ?_
        refine z_iload_n C 0 dX5_turnDue_29 rfl ?_
        refine z_iald C 3 0 rfl rfl (by decide) (by omega) dX5_turnDue_30 ?_
        refine z_istore C [(4, .int (z_I (r.2.2.2.2 ((k * 21) + (t % 21))))), (3, .int (z_I ((k * 21) + (t % 21)))), (2, .int (z_I k)), (1, .int (z_I r.1)), (0, .ref hW)] dX5_turnDue_31 (by decide) rfl ?_
        refine z_iload C 0 dX5_turnDue_33 rfl ?_
        refine z_if_le C 89 dX5_turnDue_35 (by decide) (by omega) (fun hc2 => ?_) (fun hc2 => ?_)
        · skip
          have hm1 : ¬ 0 < r.2.2.2.2 (k * 21 + t % 21) := by omega
          refine z_iinc C 2 [(2, .int (z_I (k + 1))), (4, .int (z_I (r.2.2.2.2 ((k * 21) + (t % 21))))), (3, .int (z_I ((k * 21) + (t % 21)))), (1, .int (z_I r.1)), (0, .ref hW)] dX5_turnDue_89 rfl (by decide) rfl ?_
          refine z_goto C 4 dX5_turnDue_92 (by decide) ?_
          refine z_ws [(hW, .inr (5, [.int (z_I t), .int (z_I st), .int (z_I ((z_tdS t st dl k r).2.1)), .int (z_I ((z_tdS t st dl k r).2.2.1)), .ref aD, .ref aN, .ref aU])), (aD, z_ai cI 5 dl), (aN, z_ai cI 5 ((z_tdS t st dl k r).2.2.2.1)), (aU, z_ai cI 105 ((z_tdS t st dl k r).2.2.2.2))] (by rw [z_tdS_3 hm1]) ?_
          refine z_lsub [(2, .int (z_I (k + 1))), (1, .int (z_I r.1)), (0, .ref hW)] [0, 3, 4] rfl ?_
          refine z_lveq [(2, .int (z_I (k + 1))), (1, .int (z_I ((z_tdS t st dl k r).1))), (0, .ref hW)] (by first | rw [z_tdS_1 hm1 hm2] | rw [z_tdS_2 hm1 hm2] | rw [z_tdS_3 hm1]) ?_
          exact ih4 (k + 1) (z_tdS t st dl k r) (by first | assumption | omega) (by rw [hr, z_it_next _ _ hk.1]) (by omega)
        · skip
          have hm1 : 0 < r.2.2.2.2 (k * 21 + t % 21) := by omega
          refine z_aload_n C 4 dX5_turnDue_38 rfl ?_
          refine z_get C 0 6 zi_X5_turnDue_X5 rfl rfl (by decide) zl_X5_turnDue_22 rfl rfl dX5_turnDue_39 ?_
          refine z_iload_n C 1 dX5_turnDue_42 rfl ?_
          refine z_iconst C 0 dX5_turnDue_43 ?_
          refine z_iast C 3 0 ([(hW, .inr (5, [.int (z_I t), .int (z_I st), .int (z_I r.2.1), .int (z_I r.2.2.1), .ref aD, .ref aN, .ref aU])), (aD, z_ai cI 5 dl), (aN, z_ai cI 5 r.2.2.2.1), (aU, z_ai cI 105 (z_u r.2.2.2.2 ((k * 21) + (t % 21)) 0))]) rfl rfl (by decide) (by omega) rfl dX5_turnDue_44 ?_
          refine z_aload_n C 4 dX5_turnDue_45 rfl ?_
          refine z_dup C dX5_turnDue_46 rfl ?_
          refine z_get C 0 3 zi_X5_turnDue_X5 rfl rfl (by decide) zl_X5_turnDue_37 rfl rfl dX5_turnDue_47 ?_
          refine z_iload C 0 dX5_turnDue_50 rfl ?_
          refine z_isub C dX5_turnDue_52 ?_
          refine z_put C 0 3 ([(hW, .inr (5, [.int (z_I t), .int (z_I st), .int (z_I r.2.1), .int (z_I (r.2.2.1 - (r.2.2.2.2 ((k * 21) + (t % 21))))), .ref aD, .ref aN, .ref aU])), (aD, z_ai cI 5 dl), (aN, z_ai cI 5 r.2.2.2.1), (aU, z_ai cI 105 (z_u r.2.2.2.2 ((k * 21) + (t % 21)) 0))]) zi_X5_turnDue_X5 tyX5_ok nmX5 rfl rfl (by decide) zl_X5_turnDue_37 rfl rfl rfl rfl (Nat.le_of_ble_eq_true rfl) rfl dX5_turnDue_53 ?_
          refine z_iload_n C 3 dX5_turnDue_56 rfl ?_
          refine z_iload C 0 dX5_turnDue_57 rfl ?_
          refine z_iadd C dX5_turnDue_59 ?_
          refine z_istore_n C [(1, .int (z_I (r.1 + (r.2.2.2.2 ((k * 21) + (t % 21)))))), (4, .int (z_I (r.2.2.2.2 ((k * 21) + (t % 21))))), (3, .int (z_I ((k * 21) + (t % 21)))), (2, .int (z_I k)), (0, .ref hW)] dX5_turnDue_60 (by decide) rfl ?_
          refine z_aload_n C 4 dX5_turnDue_61 rfl ?_
          refine z_iload_n C 3 dX5_turnDue_62 rfl ?_
          refine z_iload C 1 dX5_turnDue_63 rfl ?_
          refine z_callVi C [0, 1, 2, 3] [(hW, .inr (5, [.int (z_I t), .int (z_I st), .int (z_I (r.2.1 - z_bit r.2.1 k * z_p2 k + (z_bit r.2.1 k + (r.2.2.2.2 ((k * 21) + (t % 21)))) % 2 * z_p2 k)), .int (z_I (r.2.2.1 - (r.2.2.2.2 ((k * 21) + (t % 21))))), .ref aD, .ref aN, .ref aU])), (aD, z_ai cI 5 dl), (aN, z_ai cI 5 (z_u r.2.2.2.1 k (r.2.2.2.1 k + (r.2.2.2.2 ((k * 21) + (t % 21)))))), (aU, z_ai cI 105 (z_u r.2.2.2.2 ((k * 21) + (t % 21)) 0))] [.int (z_I k), .int (z_I (r.2.2.2.2 ((k * 21) + (t % 21))))] [] (c_X5_turnOver l D cI cZ cO hW aD aN aU t st r.2.1 (r.2.2.1 - (r.2.2.2.2 ((k * 21) + (t % 21)))) dl r.2.2.2.1 (z_u r.2.2.2.2 ((k * 21) + (t % 21)) 0) k (r.2.2.2.2 ((k * 21) + (t % 21))) (by first | assumption | omega) (by first | assumption | omega) (by first | assumption | omega)) gX5_turnDue_X5_turnOver rfl zd_X5_turnOver rfl (by decide) rfl rfl rfl (by decide) rfl rfl rfl (Nat.le_of_ble_eq_true rfl) (by decide) dX5_turnDue_65 ?_
          refine z_istore C [(5, .int (z_I ((z_bit r.2.1 k + (r.2.2.2.2 ((k * 21) + (t % 21)))) / 2))), (1, .int (z_I (r.1 + (r.2.2.2.2 ((k * 21) + (t % 21)))))), (4, .int (z_I (r.2.2.2.2 ((k * 21) + (t % 21))))), (3, .int (z_I ((k * 21) + (t % 21)))), (2, .int (z_I k)), (0, .ref hW)] dX5_turnDue_68 (by decide) rfl ?_
          refine z_iload_n C 4 dX5_turnDue_70 rfl ?_
          refine z_iconst C 1 dX5_turnDue_71 ?_
          refine z_iadd C dX5_turnDue_72 ?_
          refine z_aload_n C 5 dX5_turnDue_73 rfl ?_
          refine z_get C 0 1 zi_X5_turnDue_X5 rfl rfl (by decide) zl_X5_turnDue_9 rfl rfl dX5_turnDue_74 ?_
          refine z_icmp_ge C 89 dX5_turnDue_77 (by decide) (by omega) (by omega) (fun hc3 => ?_) (fun hc3 => ?_)
          · skip
            have hm2 : ¬ k + 1 < st := by omega
            refine z_iinc C 4 [(2, .int (z_I (k + 1))), (5, .int (z_I ((z_bit r.2.1 k + (r.2.2.2.2 ((k * 21) + (t % 21)))) / 2))), (1, .int (z_I (r.1 + (r.2.2.2.2 ((k * 21) + (t % 21)))))), (4, .int (z_I (r.2.2.2.2 ((k * 21) + (t % 21))))), (3, .int (z_I ((k * 21) + (t % 21)))), (0, .ref hW)] dX5_turnDue_89 rfl (by decide) rfl ?_
            refine z_goto C 4 dX5_turnDue_92 (by decide) ?_
            refine z_ws [(hW, .inr (5, [.int (z_I t), .int (z_I st), .int (z_I ((z_tdS t st dl k r).2.1)), .int (z_I ((z_tdS t st dl k r).2.2.1)), .ref aD, .ref aN, .ref aU])), (aD, z_ai cI 5 dl), (aN, z_ai cI 5 ((z_tdS t st dl k r).2.2.2.1)), (aU, z_ai cI 105 ((z_tdS t st dl k r).2.2.2.2))] (by rw [z_tdS_2 hm1 hm2]) ?_
            refine z_lsub [(2, .int (z_I (k + 1))), (1, .int (z_I (r.1 + (r.2.2.2.2 ((k * 21) + (t % 21)))))), (0, .ref hW)] [0, 2, 5] rfl ?_
            refine z_lveq [(2, .int (z_I (k + 1))), (1, .int (z_I ((z_tdS t st dl k r).1))), (0, .ref hW)] (by first | rw [z_tdS_1 hm1 hm2] | rw [z_tdS_2 hm1 hm2] | rw [z_tdS_3 hm1]) ?_
            exact ih4 (k + 1) (z_tdS t st dl k r) (by first | assumption | omega) (by rw [hr, z_it_next _ _ hk.1]) (by omega)
          · skip
            have hm2 : k + 1 < st := by omega
            have hdk1 := hd (k + 1) (by omega) (by omega)
            refine z_aload_n C 5 dX5_turnDue_80 rfl ?_
            refine z_iload_n C 4 dX5_turnDue_81 rfl ?_
            refine z_iconst C 1 dX5_turnDue_82 ?_
            refine z_iadd C dX5_turnDue_83 ?_
            refine z_iload C 0 dX5_turnDue_84 rfl ?_
            refine z_callVv C [0, 1, 2, 3] [(hW, .inr (5, [.int (z_I t), .int (z_I st), .int (z_I (r.2.1 - z_bit r.2.1 k * z_p2 k + (z_bit r.2.1 k + (r.2.2.2.2 ((k * 21) + (t % 21)))) % 2 * z_p2 k)), .int (z_I ((r.2.2.1 - (r.2.2.2.2 ((k * 21) + (t % 21)))) + ((z_bit r.2.1 k + (r.2.2.2.2 ((k * 21) + (t % 21)))) / 2))), .ref aD, .ref aN, .ref aU])), (aD, z_ai cI 5 dl), (aN, z_ai cI 5 (z_u r.2.2.2.1 k (r.2.2.2.1 k + (r.2.2.2.2 ((k * 21) + (t % 21)))))), (aU, z_ai cI 105 (z_bg t dl (k + 1) ((z_bit r.2.1 k + (r.2.2.2.2 ((k * 21) + (t % 21)))) / 2) (z_u r.2.2.2.2 ((k * 21) + (t % 21)) 0)))] [.int (z_I (k + 1)), .int (z_I ((z_bit r.2.1 k + (r.2.2.2.2 ((k * 21) + (t % 21)))) / 2))] [] (c_X5_begin l D cI cZ cO hW aD aN aU t st (r.2.1 - z_bit r.2.1 k * z_p2 k + (z_bit r.2.1 k + (r.2.2.2.2 ((k * 21) + (t % 21)))) % 2 * z_p2 k) (r.2.2.1 - (r.2.2.2.2 ((k * 21) + (t % 21)))) dl (z_u r.2.2.2.1 k (r.2.2.2.1 k + (r.2.2.2.2 ((k * 21) + (t % 21))))) (z_u r.2.2.2.2 ((k * 21) + (t % 21)) 0) (k + 1) ((z_bit r.2.1 k + (r.2.2.2.2 ((k * 21) + (t % 21)))) / 2) (by first | assumption | omega) (by first | assumption | omega) (by first | assumption | omega)) gX5_turnDue_X5_begin rfl zd_X5_begin rfl (by decide) rfl rfl rfl (by decide) rfl rfl rfl (Nat.le_of_ble_eq_true rfl) (by decide) dX5_turnDue_86 ?_
            refine z_iinc C 4 [(2, .int (z_I (k + 1))), (5, .int (z_I ((z_bit r.2.1 k + (r.2.2.2.2 ((k * 21) + (t % 21)))) / 2))), (1, .int (z_I (r.1 + (r.2.2.2.2 ((k * 21) + (t % 21)))))), (4, .int (z_I (r.2.2.2.2 ((k * 21) + (t % 21))))), (3, .int (z_I ((k * 21) + (t % 21)))), (0, .ref hW)] dX5_turnDue_89 rfl (by decide) rfl ?_
            refine z_goto C 4 dX5_turnDue_92 (by decide) ?_
            refine z_ws [(hW, .inr (5, [.int (z_I t), .int (z_I st), .int (z_I ((z_tdS t st dl k r).2.1)), .int (z_I ((z_tdS t st dl k r).2.2.1)), .ref aD, .ref aN, .ref aU])), (aD, z_ai cI 5 dl), (aN, z_ai cI 5 ((z_tdS t st dl k r).2.2.2.1)), (aU, z_ai cI 105 ((z_tdS t st dl k r).2.2.2.2))] (by rw [z_tdS_1 hm1 hm2]) ?_
            refine z_lsub [(2, .int (z_I (k + 1))), (1, .int (z_I (r.1 + (r.2.2.2.2 ((k * 21) + (t % 21)))))), (0, .ref hW)] [0, 2, 5] rfl ?_
            refine z_lveq [(2, .int (z_I (k + 1))), (1, .int (z_I ((z_tdS t st dl k r).1))), (0, .ref hW)] (by first | rw [z_tdS_1 hm1 hm2] | rw [z_tdS_2 hm1 hm2] | rw [z_tdS_3 hm1]) ?_
            exact ih4 (k + 1) (z_tdS t st dl k r) (by first | assumption | omega) (by rw [hr, z_it_next _ _ hk.1]) (by omega)
  refine z_lveq [(2, .int (z_I 0)), (1, .int (z_I ((0, sh, ow, dn, du).1))), (0, .ref hW)] rfl ?_
  exact loop4 (st.toNat + 1) 0 (0, sh, ow, dn, du) (by first | assumption | omega) rfl (by omega)
theorem zi_X5_nanosecond_X5 : ∀ w ∈ u_ws RX5 TX5 7, w ∈ wsX5_nanosecond := by decide +kernel
theorem zl_X5_nanosecond_31 : Cond.fieldLink RX5 31 "RippleCounts$Wave" "time" "I" ∈ wsX5_nanosecond := by decide +kernel
theorem zd_X5_nanosecond : yX5_nanosecond.cls ≠ "java/lang/invoke/MethodHandle" ∧ yX5_nanosecond.cls ≠ "java/lang/invoke/VarHandle" ∧ (parseMethodDescriptor yX5_nanosecond.desc).map (fun d => d.parameters.length) = some 0 := by decide +kernel
set_option maxHeartbeats 4000000 in
set_option maxRecDepth 100000 in
theorem c_X5_nanosecond (l : Launch) (D : va_G) (cI cZ cO : ClassId) (hW aD aN aU : Nat) (t st sh ow : Int) (dl dn du : Int → Int) (hst : 0 ≤ st ∧ st ≤ 5) (ht : 0 ≤ t ∧ t < 1000000) (hd : ∀ i : Int, 0 ≤ i → i < 5 → 1 ≤ dl i ∧ dl i ≤ 20) (hI : ∀ k : Int, 0 ≤ k → k ≤ st → (0 ≤ (z_it (z_tdS t st dl) (0, sh, ow, dn, du) k.toNat).2.1 ∧ (z_it (z_tdS t st dl) (0, sh, ow, dn, du) k.toNat).2.1 < 32) ∧ ∀ i : Int, 0 ≤ i → i < 105 → 0 ≤ (z_it (z_tdS t st dl) (0, sh, ow, dn, du) k.toNat).2.2.2.2 i ∧ (z_it (z_tdS t st dl) (0, sh, ow, dn, du) k.toNat).2.2.2.2 i < 1000000) : z_Mv l yX5_nanosecond wsX5_nanosecond 2 48 D (z_T cI cZ cO) [.ref hW] ([(hW, .inr (5, [.int (z_I t), .int (z_I st), .int (z_I sh), .int (z_I ow), .ref aD, .ref aN, .ref aU])), (aD, z_ai cI 5 dl), (aN, z_ai cI 5 dn), (aU, z_ai cI 105 du)]) ([(hW, .inr (5, [.int (z_I (t + 1)), .int (z_I st), .int (z_I ((z_it (z_tdS t st dl) (0, sh, ow, dn, du) st.toNat).2.1)), .int (z_I ((z_it (z_tdS t st dl) (0, sh, ow, dn, du) st.toNat).2.2.1)), .ref aD, .ref aN, .ref aU])), (aD, z_ai cI 5 dl), (aN, z_ai cI 5 ((z_it (z_tdS t st dl) (0, sh, ow, dn, du) st.toNat).2.2.2.1)), (aU, z_ai cI 105 ((z_it (z_tdS t st dl) (0, sh, ow, dn, du) st.toNat).2.2.2.2))]) := by
  refine z_Mv_of (cc := cX5_nanosecond) (nL := 1) (ret := none) (by decide +kernel) rfl (Nat.le_of_ble_eq_true rfl) ?_
  intro p e s m args below meth c A Q C hQ
  change z_V p l e { frames := 2, cells := 0, slots := 0, locals := 48 } s m args below meth c D A 1 0 0 Q ([(hW, .inr (5, [.int (z_I t), .int (z_I st), .int (z_I sh), .int (z_I ow), .ref aD, .ref aN, .ref aU])), (aD, z_ai cI 5 dl), (aN, z_ai cI 5 dn), (aU, z_ai cI 105 du)]) 0 [(0, .ref hW)] []
  refine z_aload_n C 0 dX5_nanosecond_0 rfl ?_
  refine z_callVi C [0, 1, 2, 3] [(hW, .inr (5, [.int (z_I t), .int (z_I st), .int (z_I ((z_it (z_tdS t st dl) (0, sh, ow, dn, du) st.toNat).2.1)), .int (z_I ((z_it (z_tdS t st dl) (0, sh, ow, dn, du) st.toNat).2.2.1)), .ref aD, .ref aN, .ref aU])), (aD, z_ai cI 5 dl), (aN, z_ai cI 5 ((z_it (z_tdS t st dl) (0, sh, ow, dn, du) st.toNat).2.2.2.1)), (aU, z_ai cI 105 ((z_it (z_tdS t st dl) (0, sh, ow, dn, du) st.toNat).2.2.2.2))] [] [] (c_X5_turnDue l D cI cZ cO hW aD aN aU t st sh ow dl dn du (by first | assumption | omega) (by first | assumption | omega) (by first | assumption | omega) (by first | assumption | omega)) gX5_nanosecond_X5_turnDue rfl zd_X5_turnDue rfl (by decide) rfl rfl rfl (by decide) rfl rfl rfl (Nat.le_of_ble_eq_true rfl) (by decide) dX5_nanosecond_1 ?_
  refine z_pop C dX5_nanosecond_4 rfl ?_
  refine z_aload_n C 0 dX5_nanosecond_5 rfl ?_
  refine z_dup C dX5_nanosecond_6 rfl ?_
  refine z_get C 0 0 zi_X5_nanosecond_X5 rfl rfl (by decide) zl_X5_nanosecond_31 rfl rfl dX5_nanosecond_7 ?_
  refine z_iconst C 1 dX5_nanosecond_10 ?_
  refine z_iadd C dX5_nanosecond_11 ?_
  refine z_put C 0 0 ([(hW, .inr (5, [.int (z_I (t + 1)), .int (z_I st), .int (z_I ((z_it (z_tdS t st dl) (0, sh, ow, dn, du) st.toNat).2.1)), .int (z_I ((z_it (z_tdS t st dl) (0, sh, ow, dn, du) st.toNat).2.2.1)), .ref aD, .ref aN, .ref aU])), (aD, z_ai cI 5 dl), (aN, z_ai cI 5 ((z_it (z_tdS t st dl) (0, sh, ow, dn, du) st.toNat).2.2.2.1)), (aU, z_ai cI 105 ((z_it (z_tdS t st dl) (0, sh, ow, dn, du) st.toNat).2.2.2.2))]) zi_X5_nanosecond_X5 tyX5_ok nmX5 rfl rfl (by decide) zl_X5_nanosecond_31 rfl rfl rfl rfl (Nat.le_of_ble_eq_true rfl) rfl dX5_nanosecond_12 ?_
  exact z_vret C hQ rfl dX5_nanosecond_15
theorem zi_X5_onTheirWayIn_X5 : ∀ w ∈ u_ws RX5 TX5 7, w ∈ wsX5_onTheirWayIn := by decide +kernel
theorem zl_X5_onTheirWayIn_22 : Cond.fieldLink RX5 22 "RippleCounts$Wave" "due" "[I" ∈ wsX5_onTheirWayIn := by decide +kernel
theorem zd_X5_onTheirWayIn : yX5_onTheirWayIn.cls ≠ "java/lang/invoke/MethodHandle" ∧ yX5_onTheirWayIn.cls ≠ "java/lang/invoke/VarHandle" ∧ (parseMethodDescriptor yX5_onTheirWayIn.desc).map (fun d => d.parameters.length) = some 1 := by decide +kernel
set_option maxHeartbeats 4000000 in
set_option maxRecDepth 100000 in
theorem c_X5_onTheirWayIn (l : Launch) (D : va_G) (cI cZ cO : ClassId) (hW aD aN aU : Nat) (t st sh ow : Int) (dl dn du : Int → Int) (k : Int) (hk : 0 ≤ k ∧ k < 5) : z_Mi l yX5_onTheirWayIn wsX5_onTheirWayIn 0 0 D (z_T cI cZ cO) [.ref hW, .int (z_I k)] ([(hW, .inr (5, [.int (z_I t), .int (z_I st), .int (z_I sh), .int (z_I ow), .ref aD, .ref aN, .ref aU])), (aD, z_ai cI 5 dl), (aN, z_ai cI 5 dn), (aU, z_ai cI 105 du)]) ([(hW, .inr (5, [.int (z_I t), .int (z_I st), .int (z_I sh), .int (z_I ow), .ref aD, .ref aN, .ref aU])), (aD, z_ai cI 5 dl), (aN, z_ai cI 5 dn), (aU, z_ai cI 105 du)]) (z_it (fun j a => a + du (k * 21 + j)) 0 21) := by
  refine z_Mi_of (cc := cX5_onTheirWayIn) (nL := 4) (ret := (some .int)) (by decide +kernel) rfl (Nat.le_of_ble_eq_true rfl) ?_
  intro p e s m args below meth c A Q C hQ
  change z_V p l e { frames := 0, cells := 0, slots := 0, locals := 0 } s m args below meth c D A 4 0 0 Q ([(hW, .inr (5, [.int (z_I t), .int (z_I st), .int (z_I sh), .int (z_I ow), .ref aD, .ref aN, .ref aU])), (aD, z_ai cI 5 dl), (aN, z_ai cI 5 dn), (aU, z_ai cI 105 du)]) 0 [(0, .ref hW), (1, .int (z_I k))] []
  refine z_iconst C 0 dX5_onTheirWayIn_0 ?_
  refine z_istore_n C [(2, .int (z_I 0)), (0, .ref hW), (1, .int (z_I k))] dX5_onTheirWayIn_1 (by decide) rfl ?_
  refine z_iconst C 0 dX5_onTheirWayIn_2 ?_
  refine z_istore_n C [(3, .int (z_I 0)), (2, .int (z_I 0)), (0, .ref hW), (1, .int (z_I k))] dX5_onTheirWayIn_3 (by decide) rfl ?_
  have loop4 : ∀ (zn : Nat) (j : Int) (a : Int), 0 ≤ j ∧ j ≤ 21 → a = z_it (fun j a => a + du (k * 21 + j)) 0 j.toNat → (21 - j) < (zn : Int) → z_V p l e { frames := 0, cells := 0, slots := 0, locals := 0 } s m args below meth c D A 4 0 0 Q [(hW, .inr (5, [.int (z_I t), .int (z_I st), .int (z_I sh), .int (z_I ow), .ref aD, .ref aN, .ref aU])), (aD, z_ai cI 5 dl), (aN, z_ai cI 5 dn), (aU, z_ai cI 105 du)] 4 [(3, .int (z_I j)), (2, .int (z_I a)), (0, .ref hW), (1, .int (z_I k))] [] := by
    intro zn
    induction zn with
    | zero => intro j a hj ha hm4; exact absurd hm4 (by omega)
    | succ zn4 ih4 =>
      intro j a hj ha hm4
      refine z_iload_n C 0 dX5_onTheirWayIn_4 rfl ?_
      refine z_bipush C 21 dX5_onTheirWayIn_5 (by decide) ?_
      refine z_icmp_ge C 30 dX5_onTheirWayIn_7 (by decide) (by omega) (by omega) (fun hc1 => ?_) (fun hc1 => ?_)
      · skip
        obtain rfl : j = 21 := by omega
        refine z_iload_n C 1 dX5_onTheirWayIn_30 rfl ?_
        exact z_iret C hQ rfl ha dX5_onTheirWayIn_31
      · skip
        refine z_iload_n C 1 dX5_onTheirWayIn_10 rfl ?_
        refine z_aload_n C 2 dX5_onTheirWayIn_11 rfl ?_
        refine z_get C 0 6 zi_X5_onTheirWayIn_X5 rfl rfl (by decide) zl_X5_onTheirWayIn_22 rfl rfl dX5_onTheirWayIn_12 ?_
        refine z_iload_n C 3 dX5_onTheirWayIn_15 rfl ?_
        refine z_bipush C 21 dX5_onTheirWayIn_16 (by decide) ?_
        refine z_imul C dX5_onTheirWayIn_18 ?_
        refine z_iload_n C 0 dX5_onTheirWayIn_19 rfl ?_
        refine z_iadd C dX5_onTheirWayIn_20 ?_
        refine z_iald C 3 0 rfl rfl (by decide) (by omega) dX5_onTheirWayIn_21 ?_
        refine z_iadd C dX5_onTheirWayIn_22 ?_
        refine z_istore_n C [(2, .int (z_I (a + (du ((k * 21) + j))))), (3, .int (z_I j)), (0, .ref hW), (1, .int (z_I k))] dX5_onTheirWayIn_23 (by decide) rfl ?_
        refine z_iinc C 1 [(3, .int (z_I (j + 1))), (2, .int (z_I (a + (du ((k * 21) + j))))), (0, .ref hW), (1, .int (z_I k))] dX5_onTheirWayIn_24 rfl (by decide) rfl ?_
        refine z_goto C 4 dX5_onTheirWayIn_27 (by decide) ?_
        exact ih4 (j + 1) (a + (du ((k * 21) + j))) (by first | assumption | omega) (by rw [z_it_next _ _ hj.1, ← ha]) (by omega)
  exact loop4 22 0 0 (by first | assumption | omega) rfl (by omega)
theorem zi_X5_untilNext_X5 : ∀ w ∈ u_ws RX5 TX5 7, w ∈ wsX5_untilNext := by decide +kernel
theorem zl_X5_untilNext_22 : Cond.fieldLink RX5 22 "RippleCounts$Wave" "due" "[I" ∈ wsX5_untilNext := by decide +kernel
theorem zl_X5_untilNext_31 : Cond.fieldLink RX5 31 "RippleCounts$Wave" "time" "I" ∈ wsX5_untilNext := by decide +kernel
theorem zd_X5_untilNext : yX5_untilNext.cls ≠ "java/lang/invoke/MethodHandle" ∧ yX5_untilNext.cls ≠ "java/lang/invoke/VarHandle" ∧ (parseMethodDescriptor yX5_untilNext.desc).map (fun d => d.parameters.length) = some 1 := by decide +kernel
set_option maxHeartbeats 4000000 in
set_option maxRecDepth 100000 in
theorem c_X5_untilNext (l : Launch) (D : va_G) (cI cZ cO : ClassId) (hW aD aN aU : Nat) (t st sh ow : Int) (dl dn du : Int → Int) (k : Int) (hk : 0 ≤ k ∧ k < 5) (ht : 0 ≤ t ∧ t < 1000000) (hu : ∀ i : Int, 0 ≤ i → i < 105 → 0 ≤ du i ∧ du i < 1000000) : z_Mi l yX5_untilNext wsX5_untilNext 0 0 D (z_T cI cZ cO) [.ref hW, .int (z_I k)] ([(hW, .inr (5, [.int (z_I t), .int (z_I st), .int (z_I sh), .int (z_I ow), .ref aD, .ref aN, .ref aU])), (aD, z_ai cI 5 dl), (aN, z_ai cI 5 dn), (aU, z_ai cI 105 du)]) ([(hW, .inr (5, [.int (z_I t), .int (z_I st), .int (z_I sh), .int (z_I ow), .ref aD, .ref aN, .ref aU])), (aD, z_ai cI 5 dl), (aN, z_ai cI 5 dn), (aU, z_ai cI 105 du)]) (z_fst (fun i => du (k * 21 + (t + i) % 21)) 0 21) := by
  refine z_Mi_of (cc := cX5_untilNext) (nL := 3) (ret := (some .int)) (by decide +kernel) rfl (Nat.le_of_ble_eq_true rfl) ?_
  intro p e s m args below meth c A Q C hQ
  change z_V p l e { frames := 0, cells := 0, slots := 0, locals := 0 } s m args below meth c D A 3 0 0 Q ([(hW, .inr (5, [.int (z_I t), .int (z_I st), .int (z_I sh), .int (z_I ow), .ref aD, .ref aN, .ref aU])), (aD, z_ai cI 5 dl), (aN, z_ai cI 5 dn), (aU, z_ai cI 105 du)]) 0 [(0, .ref hW), (1, .int (z_I k))] []
  refine z_iconst C 0 dX5_untilNext_0 ?_
  refine z_istore_n C [(2, .int (z_I 0)), (0, .ref hW), (1, .int (z_I k))] dX5_untilNext_1 (by decide) rfl ?_
  have loop2 : ∀ (zn : Nat) (j : Int), 0 ≤ j ∧ j ≤ 21 → z_fst (fun i => du (k * 21 + (t + i) % 21)) 0 21 = z_fst (fun i => du (k * 21 + (t + i) % 21)) j (21 - j).toNat → (21 - j) < (zn : Int) → z_V p l e { frames := 0, cells := 0, slots := 0, locals := 0 } s m args below meth c D A 3 0 0 Q [(hW, .inr (5, [.int (z_I t), .int (z_I st), .int (z_I sh), .int (z_I ow), .ref aD, .ref aN, .ref aU])), (aD, z_ai cI 5 dl), (aN, z_ai cI 5 dn), (aU, z_ai cI 105 du)] 2 [(2, .int (z_I j)), (0, .ref hW), (1, .int (z_I k))] [] := by
    intro zn
    induction zn with
    | zero => intro j hj ha hm2; exact absurd hm2 (by omega)
    | succ zn2 ih2 =>
      intro j hj ha hm2
      refine z_iload_n C 0 dX5_untilNext_2 rfl ?_
      refine z_bipush C 21 dX5_untilNext_3 (by decide) ?_
      refine z_icmp_ge C 38 dX5_untilNext_5 (by decide) (by omega) (by omega) (fun hc1 => ?_) (fun hc1 => ?_)
      · skip
        obtain rfl : j = 21 := by omega
        refine z_bipush C (-6) dX5_untilNext_38 (by decide) ?_
        exact z_iret C hQ rfl (by rw [ha]; rfl) dX5_untilNext_40
      · skip
        have hM := hu (k * 21 + (t + j) % 21) (by omega) (by omega)
        refine z_aload_n C 1 dX5_untilNext_8 rfl ?_
        refine z_get C 0 6 zi_X5_untilNext_X5 rfl rfl (by decide) zl_X5_untilNext_22 rfl rfl dX5_untilNext_9 ?_
        refine z_iload_n C 2 dX5_untilNext_12 rfl ?_
        refine z_bipush C 21 dX5_untilNext_13 (by decide) ?_
        refine z_imul C dX5_untilNext_15 ?_
        refine z_aload_n C 1 dX5_untilNext_16 rfl ?_
        refine z_get C 0 0 zi_X5_untilNext_X5 rfl rfl (by decide) zl_X5_untilNext_31 rfl rfl dX5_untilNext_17 ?_
        refine z_iload_n C 0 dX5_untilNext_20 rfl ?_
        refine z_iadd C dX5_untilNext_21 ?_
        refine z_bipush C 21 dX5_untilNext_22 (by decide) ?_
        refine z_irem C dX5_untilNext_24 (by omega) (by omega) ?_
        refine z_iadd C dX5_untilNext_25 ?_
        refine z_iald C 3 0 rfl rfl (by decide) (by omega) dX5_untilNext_26 ?_
        refine z_if_le C 32 dX5_untilNext_27 (by decide) (by omega) (fun hc2 => ?_) (fun hc2 => ?_)
        · skip
          have hc2n : ¬ 0 < (fun i => du (k * 21 + (t + i) % 21)) j := by show ¬ 0 < du (k * 21 + (t + j) % 21); omega
          refine z_iinc C 0 [(2, .int (z_I (j + 1))), (0, .ref hW), (1, .int (z_I k))] dX5_untilNext_32 rfl (by decide) rfl ?_
          refine z_goto C 2 dX5_untilNext_35 (by decide) ?_
          exact ih2 (j + 1) (by first | assumption | omega) (by rw [ha, z_fst_neg (f := fun i => du (k * 21 + (t + i) % 21)) (m := (21 - (j + 1)).toNat) (by omega) hc2n]) (by omega)
        · skip
          have hc2p : 0 < (fun i => du (k * 21 + (t + i) % 21)) j := by show 0 < du (k * 21 + (t + j) % 21); omega
          refine z_iload_n C 0 dX5_untilNext_30 rfl ?_
          exact z_iret C hQ rfl (by rw [ha, z_fst_pos (f := fun i => du (k * 21 + (t + i) % 21)) (by omega) hc2p]) dX5_untilNext_31
  exact loop2 22 0 (by first | assumption | omega) rfl (by omega)
theorem zi_X5_throughAll_X5 : ∀ w ∈ u_ws RX5 TX5 7, w ∈ wsX5_throughAll := by decide +kernel
theorem zl_X5_throughAll_15 : Cond.fieldLink RX5 15 "RippleCounts$Wave" "delays" "[I" ∈ wsX5_throughAll := by decide +kernel
theorem zl_X5_throughAll_9 : Cond.fieldLink RX5 9 "RippleCounts$Wave" "stages" "I" ∈ wsX5_throughAll := by decide +kernel
theorem zd_X5_throughAll : yX5_throughAll.cls ≠ "java/lang/invoke/MethodHandle" ∧ yX5_throughAll.cls ≠ "java/lang/invoke/VarHandle" ∧ (parseMethodDescriptor yX5_throughAll.desc).map (fun d => d.parameters.length) = some 0 := by decide +kernel
set_option maxHeartbeats 4000000 in
set_option maxRecDepth 100000 in
theorem c_X5_throughAll (l : Launch) (D : va_G) (cI cZ cO : ClassId) (hW aD aN aU : Nat) (t st sh ow : Int) (dl dn du : Int → Int) (hst : 0 ≤ st ∧ st ≤ 5) : z_Mi l yX5_throughAll wsX5_throughAll 0 0 D (z_T cI cZ cO) [.ref hW] ([(hW, .inr (5, [.int (z_I t), .int (z_I st), .int (z_I sh), .int (z_I ow), .ref aD, .ref aN, .ref aU])), (aD, z_ai cI 5 dl), (aN, z_ai cI 5 dn), (aU, z_ai cI 105 du)]) ([(hW, .inr (5, [.int (z_I t), .int (z_I st), .int (z_I sh), .int (z_I ow), .ref aD, .ref aN, .ref aU])), (aD, z_ai cI 5 dl), (aN, z_ai cI 5 dn), (aU, z_ai cI 105 du)]) (z_it (fun j a => a + dl j) 0 st.toNat) := by
  refine z_Mi_of (cc := cX5_throughAll) (nL := 3) (ret := (some .int)) (by decide +kernel) rfl (Nat.le_of_ble_eq_true rfl) ?_
  intro p e s m args below meth c A Q C hQ
  change z_V p l e { frames := 0, cells := 0, slots := 0, locals := 0 } s m args below meth c D A 3 0 0 Q ([(hW, .inr (5, [.int (z_I t), .int (z_I st), .int (z_I sh), .int (z_I ow), .ref aD, .ref aN, .ref aU])), (aD, z_ai cI 5 dl), (aN, z_ai cI 5 dn), (aU, z_ai cI 105 du)]) 0 [(0, .ref hW)] []
  refine z_iconst C 0 dX5_throughAll_0 ?_
  refine z_istore_n C [(1, .int (z_I 0)), (0, .ref hW)] dX5_throughAll_1 (by decide) rfl ?_
  refine z_iconst C 0 dX5_throughAll_2 ?_
  refine z_istore_n C [(2, .int (z_I 0)), (1, .int (z_I 0)), (0, .ref hW)] dX5_throughAll_3 (by decide) rfl ?_
  have loop4 : ∀ (zn : Nat) (j : Int) (a : Int), 0 ≤ j ∧ j ≤ st → a = z_it (fun j a => a + dl j) 0 j.toNat → (st - j) < (zn : Int) → z_V p l e { frames := 0, cells := 0, slots := 0, locals := 0 } s m args below meth c D A 3 0 0 Q [(hW, .inr (5, [.int (z_I t), .int (z_I st), .int (z_I sh), .int (z_I ow), .ref aD, .ref aN, .ref aU])), (aD, z_ai cI 5 dl), (aN, z_ai cI 5 dn), (aU, z_ai cI 105 du)] 4 [(2, .int (z_I j)), (1, .int (z_I a)), (0, .ref hW)] [] := by
    intro zn
    induction zn with
    | zero => intro j a hj ha hm4; exact absurd hm4 (by omega)
    | succ zn4 ih4 =>
      intro j a hj ha hm4
      refine z_iload_n C 0 dX5_throughAll_4 rfl ?_
      refine z_aload_n C 2 dX5_throughAll_5 rfl ?_
      refine z_get C 0 1 zi_X5_throughAll_X5 rfl rfl (by decide) zl_X5_throughAll_9 rfl rfl dX5_throughAll_6 ?_
      refine z_icmp_ge C 27 dX5_throughAll_9 (by decide) (by omega) (by omega) (fun hc1 => ?_) (fun hc1 => ?_)
      · skip
        obtain rfl : j = st := by omega
        refine z_iload_n C 1 dX5_throughAll_27 rfl ?_
        exact z_iret C hQ rfl ha dX5_throughAll_28
      · skip
        refine z_iload_n C 1 dX5_throughAll_12 rfl ?_
        refine z_aload_n C 2 dX5_throughAll_13 rfl ?_
        refine z_get C 0 4 zi_X5_throughAll_X5 rfl rfl (by decide) zl_X5_throughAll_15 rfl rfl dX5_throughAll_14 ?_
        refine z_iload_n C 0 dX5_throughAll_17 rfl ?_
        refine z_iald C 1 0 rfl rfl (by decide) (by omega) dX5_throughAll_18 ?_
        refine z_iadd C dX5_throughAll_19 ?_
        refine z_istore_n C [(1, .int (z_I (a + (dl j)))), (2, .int (z_I j)), (0, .ref hW)] dX5_throughAll_20 (by decide) rfl ?_
        refine z_iinc C 1 [(2, .int (z_I (j + 1))), (1, .int (z_I (a + (dl j)))), (0, .ref hW)] dX5_throughAll_21 rfl (by decide) rfl ?_
        refine z_goto C 4 dX5_throughAll_24 (by decide) ?_
        exact ih4 (j + 1) (a + (dl j)) (by first | assumption | omega) (by rw [z_it_next _ _ hj.1, ← ha]) (by omega)
  exact loop4 (st.toNat + 1) 0 0 (by first | assumption | omega) rfl (by omega)
theorem zi_X5_readsTrue_X5 : ∀ w ∈ u_ws RX5 TX5 7, w ∈ wsX5_readsTrue := by decide +kernel
theorem zl_X5_readsTrue_15 : Cond.fieldLink RX5 15 "RippleCounts$Wave" "delays" "[I" ∈ wsX5_readsTrue := by decide +kernel
theorem zl_X5_readsTrue_62c : Cond.code Lib.Math.max.name Lib.Math.max.code 2 (some .int) ∈ wsX5_readsTrue := by decide +kernel
theorem zl_X5_readsTrue_62i : Cond.initialized "java/lang/Math" ∈ wsX5_readsTrue := by decide +kernel
theorem zl_X5_readsTrue_62k : Cond.methodLink RX5 62 Lib.Math.max.name ∈ wsX5_readsTrue := by decide +kernel
theorem zl_X5_readsTrue_62s : Cond.static Lib.Math.max.name ∈ wsX5_readsTrue := by decide +kernel
theorem zl_X5_readsTrue_9 : Cond.fieldLink RX5 9 "RippleCounts$Wave" "stages" "I" ∈ wsX5_readsTrue := by decide +kernel
theorem zd_X5_readsTrue : yX5_readsTrue.cls ≠ "java/lang/invoke/MethodHandle" ∧ yX5_readsTrue.cls ≠ "java/lang/invoke/VarHandle" ∧ (parseMethodDescriptor yX5_readsTrue.desc).map (fun d => d.parameters.length) = some 2 := by decide +kernel
set_option maxHeartbeats 4000000 in
set_option maxRecDepth 100000 in
theorem c_X5_readsTrue (l : Launch) (D : va_G) (cI cZ cO : ClassId) (hW aD aN aU : Nat) (t st sh ow : Int) (dl dn du : Int → Int) (cm g : Int) (hst : 0 ≤ st ∧ st ≤ 5) (hc : 1 ≤ cm ∧ cm ≤ 32) (hg : 1 ≤ g ∧ g ≤ 50) (hd : ∀ i : Int, 0 ≤ i → i < 5 → 1 ≤ dl i ∧ dl i ≤ 20) : z_Mi l yX5_readsTrue wsX5_readsTrue 1 21 D (z_T cI cZ cO) [.ref hW, .int (z_I cm), .int (z_I g)] ([(hW, .inr (5, [.int (z_I t), .int (z_I st), .int (z_I sh), .int (z_I ow), .ref aD, .ref aN, .ref aU])), (aD, z_ai cI 5 dl), (aN, z_ai cI 5 dn), (aU, z_ai cI 105 du)]) ([(hW, .inr (5, [.int (z_I t), .int (z_I st), .int (z_I sh), .int (z_I ow), .ref aD, .ref aN, .ref aU])), (aD, z_ai cI 5 dl), (aN, z_ai cI 5 dn), (aU, z_ai cI 105 du)]) (z_rt dl cm g 0 0 st.toNat) := by
  refine z_Mi_of (cc := cX5_readsTrue) (nL := 6) (ret := (some .boolean)) (by decide +kernel) rfl (Nat.le_of_ble_eq_true rfl) ?_
  intro p e s m args below meth c A Q C hQ
  change z_V p l e { frames := 1, cells := 0, slots := 0, locals := 21 } s m args below meth c D A 6 0 0 Q ([(hW, .inr (5, [.int (z_I t), .int (z_I st), .int (z_I sh), .int (z_I ow), .ref aD, .ref aN, .ref aU])), (aD, z_ai cI 5 dl), (aN, z_ai cI 5 dn), (aU, z_ai cI 105 du)]) 0 [(0, .ref hW), (1, .int (z_I cm)), (2, .int (z_I g))] []
  refine z_iconst C 0 dX5_readsTrue_0 ?_
  refine z_istore_n C [(3, .int (z_I 0)), (0, .ref hW), (1, .int (z_I cm)), (2, .int (z_I g))] dX5_readsTrue_1 (by decide) rfl ?_
  refine z_iconst C 0 dX5_readsTrue_2 ?_
  refine z_istore C [(4, .int (z_I 0)), (3, .int (z_I 0)), (0, .ref hW), (1, .int (z_I cm)), (2, .int (z_I g))] dX5_readsTrue_3 (by decide) rfl ?_
  have loop5 : ∀ (zn : Nat) (k : Int) (th : Int), 0 ≤ k ∧ k ≤ st → 0 ≤ th ∧ th ≤ 20 * k → z_rt dl cm g 0 0 st.toNat = z_rt dl cm g k th (st - k).toNat → (st - k) < (zn : Int) → z_V p l e { frames := 1, cells := 0, slots := 0, locals := 21 } s m args below meth c D A 6 0 0 Q [(hW, .inr (5, [.int (z_I t), .int (z_I st), .int (z_I sh), .int (z_I ow), .ref aD, .ref aN, .ref aU])), (aD, z_ai cI 5 dl), (aN, z_ai cI 5 dn), (aU, z_ai cI 105 du)] 5 [(4, .int (z_I k)), (3, .int (z_I th)), (0, .ref hW), (1, .int (z_I cm)), (2, .int (z_I g))] [] := by
    intro zn
    induction zn with
    | zero => intro k th hk hth ha hm5; exact absurd hm5 (by omega)
    | succ zn5 ih5 =>
      intro k th hk hth ha hm5
      refine z_iload C 0 dX5_readsTrue_5 rfl ?_
      refine z_aload_n C 2 dX5_readsTrue_7 rfl ?_
      refine z_get C 0 1 zi_X5_readsTrue_X5 rfl rfl (by decide) zl_X5_readsTrue_9 rfl rfl dX5_readsTrue_8 ?_
      refine z_icmp_ge C 55 dX5_readsTrue_11 (by decide) (by omega) (by omega) (fun hc1 => ?_) (fun hc1 => ?_)
      · skip
        obtain rfl : k = st := by omega
        refine z_iconst C 1 dX5_readsTrue_55 ?_
        exact z_zret C hQ rfl (by rw [ha, show (k - k).toNat = 0 by omega]; rfl) (by omega) dX5_readsTrue_56
      · skip
        have hdk := hd k hk.1 (by omega)
        refine z_iload_n C 1 dX5_readsTrue_14 rfl ?_
        refine z_aload_n C 2 dX5_readsTrue_15 rfl ?_
        refine z_get C 0 4 zi_X5_readsTrue_X5 rfl rfl (by decide) zl_X5_readsTrue_15 rfl rfl dX5_readsTrue_16 ?_
        refine z_iload C 0 dX5_readsTrue_19 rfl ?_
        refine z_iald C 1 0 rfl rfl (by decide) (by omega) dX5_readsTrue_21 ?_
        refine z_iadd C dX5_readsTrue_22 ?_
        refine z_istore_n C [(3, .int (z_I (th + (dl k)))), (4, .int (z_I k)), (0, .ref hW), (1, .int (z_I cm)), (2, .int (z_I g))] dX5_readsTrue_23 (by decide) rfl ?_
        refine z_iconst C 0 dX5_readsTrue_24 ?_
        refine z_iload_n C 3 dX5_readsTrue_25 rfl ?_
        refine z_iload_n C 0 dX5_readsTrue_26 rfl ?_
        refine z_iload_n C 4 dX5_readsTrue_27 rfl ?_
        have hq : 0 ≤ (th + dl k) / g := Int.ediv_nonneg (by omega) (by omega)
        have hq2 := Int.ediv_le_self g (show 0 ≤ th + dl k by omega)
        refine z_idiv C dX5_readsTrue_28 (by omega) (by omega) ?_
        refine z_isub C dX5_readsTrue_29 ?_
        refine z_mmax C zl_X5_readsTrue_62k zl_X5_readsTrue_62s zl_X5_readsTrue_62i zl_X5_readsTrue_62c (by decide) (by decide) (by omega) (by omega) dX5_readsTrue_30 ?_
        refine z_istore C [(5, .int (z_I (if 0 < cm - ((th + (dl k)) / g) then cm - ((th + (dl k)) / g) else 0))), (3, .int (z_I (th + (dl k)))), (4, .int (z_I k)), (0, .ref hW), (1, .int (z_I cm)), (2, .int (z_I g))] dX5_readsTrue_33 (by decide) rfl ?_
        have hmx : 0 ≤ (if 0 < cm - (th + dl k) / g then cm - (th + dl k) / g else 0) ∧ (if 0 < cm - (th + dl k) / g then cm - (th + dl k) / g else 0) < 33 := by split <;> omega
        have hxr := z_xrb hmx (b := cm) (by omega) (k := k) (by omega)
        refine z_iload C 0 dX5_readsTrue_35 rfl ?_
        refine z_iload_n C 4 dX5_readsTrue_37 rfl ?_
        refine z_ixor C (z_xr (if 0 < cm - (th + dl k) / g then cm - (th + dl k) / g else 0) cm) dX5_readsTrue_38 (z_xor (by omega) (by omega)) ?_
        refine z_iload C 2 dX5_readsTrue_39 rfl ?_
        refine z_ishr C (z_xr (if 0 < cm - (th + dl k) / g then cm - (th + dl k) / g else 0) cm / z_p2 k) dX5_readsTrue_41 (z_shr hxr.1 (by omega)) ?_
        refine z_iconst C 1 dX5_readsTrue_42 ?_
        refine z_iand C (z_xr (if 0 < cm - (th + dl k) / g then cm - (th + dl k) / g else 0) cm / z_p2 k % 2) dX5_readsTrue_43 (z_and1 ⟨Int.ediv_nonneg hxr.1.1 (Int.le_of_lt (z_p2_pos k)), by have := Int.ediv_le_self (z_p2 k) hxr.1.1; omega⟩) ?_
        refine z_if_eq C 49 dX5_readsTrue_44 (by decide) (by omega) (fun hc2 => ?_) (fun hc2 => ?_)
        · skip
          have heq := hxr.2.mp hc2
          refine z_iinc C 2 [(4, .int (z_I (k + 1))), (5, .int (z_I (if 0 < cm - ((th + (dl k)) / g) then cm - ((th + (dl k)) / g) else 0))), (3, .int (z_I (th + (dl k)))), (0, .ref hW), (1, .int (z_I cm)), (2, .int (z_I g))] dX5_readsTrue_49 rfl (by decide) rfl ?_
          refine z_goto C 5 dX5_readsTrue_52 (by decide) ?_
          refine z_lsub [(4, .int (z_I (k + 1))), (3, .int (z_I (th + (dl k)))), (0, .ref hW), (1, .int (z_I cm)), (2, .int (z_I g))] [0, 2, 3, 4, 5] rfl ?_
          exact ih5 (k + 1) (th + (dl k)) (by first | assumption | omega) (by first | assumption | omega) (by rw [ha, z_rt_step (m := (st - (k + 1)).toNat) (by omega), if_pos heq]) (by omega)
        · skip
          have hne : ¬ z_bit (if 0 < cm - (th + dl k) / g then cm - (th + dl k) / g else 0) k = z_bit cm k := fun q => hc2 (hxr.2.mpr q)
          refine z_iconst C 0 dX5_readsTrue_47 ?_
          exact z_zret C hQ rfl (by rw [ha, z_rt_step (m := (st - (k + 1)).toNat) (by omega), if_neg hne]) (by omega) dX5_readsTrue_48
  exact loop5 (st.toNat + 1) 0 0 (by first | assumption | omega) (by first | assumption | omega) (by rw [Int.sub_zero]) (by omega)
theorem zi_X5_wrongReadings_X5 : ∀ w ∈ u_ws RX5 TX5 7, w ∈ wsX5_wrongReadings := by decide +kernel
theorem zl_X5_wrongReadings_9 : Cond.fieldLink RX5 9 "RippleCounts$Wave" "stages" "I" ∈ wsX5_wrongReadings := by decide +kernel
theorem zd_X5_wrongReadings : yX5_wrongReadings.cls ≠ "java/lang/invoke/MethodHandle" ∧ yX5_wrongReadings.cls ≠ "java/lang/invoke/VarHandle" ∧ (parseMethodDescriptor yX5_wrongReadings.desc).map (fun d => d.parameters.length) = some 1 := by decide +kernel
set_option maxHeartbeats 4000000 in
set_option maxRecDepth 100000 in
theorem c_X5_wrongReadings (l : Launch) (D : va_G) (cI cZ cO : ClassId) (hW aD aN aU : Nat) (t st sh ow : Int) (dl dn du : Int → Int) (g : Int) (hst : 0 ≤ st ∧ st ≤ 5) (hg : 1 ≤ g ∧ g ≤ 50) (hd : ∀ i : Int, 0 ≤ i → i < 5 → 1 ≤ dl i ∧ dl i ≤ 20) : z_Mi l yX5_wrongReadings wsX5_wrongReadings 2 46 D (z_T cI cZ cO) [.ref hW, .int (z_I g)] ([(hW, .inr (5, [.int (z_I t), .int (z_I st), .int (z_I sh), .int (z_I ow), .ref aD, .ref aN, .ref aU])), (aD, z_ai cI 5 dl), (aN, z_ai cI 5 dn), (aU, z_ai cI 105 du)]) ([(hW, .inr (5, [.int (z_I t), .int (z_I st), .int (z_I sh), .int (z_I ow), .ref aD, .ref aN, .ref aU])), (aD, z_ai cI 5 dl), (aN, z_ai cI 5 dn), (aU, z_ai cI 105 du)]) (z_it (fun j a => if z_rt dl (j + 1) g 0 0 st.toNat = 0 then a + 1 else a) 0 (z_p2 st).toNat) := by
  refine z_Mi_of (cc := cX5_wrongReadings) (nL := 4) (ret := (some .int)) (by decide +kernel) rfl (Nat.le_of_ble_eq_true rfl) ?_
  intro p e s m args below meth c A Q C hQ
  change z_V p l e { frames := 2, cells := 0, slots := 0, locals := 46 } s m args below meth c D A 4 0 0 Q ([(hW, .inr (5, [.int (z_I t), .int (z_I st), .int (z_I sh), .int (z_I ow), .ref aD, .ref aN, .ref aU])), (aD, z_ai cI 5 dl), (aN, z_ai cI 5 dn), (aU, z_ai cI 105 du)]) 0 [(0, .ref hW), (1, .int (z_I g))] []
  have hp := z_p2_le hst
  refine z_iconst C 0 dX5_wrongReadings_0 ?_
  refine z_istore_n C [(2, .int (z_I 0)), (0, .ref hW), (1, .int (z_I g))] dX5_wrongReadings_1 (by decide) rfl ?_
  refine z_iconst C 1 dX5_wrongReadings_2 ?_
  refine z_istore_n C [(3, .int (z_I 1)), (2, .int (z_I 0)), (0, .ref hW), (1, .int (z_I g))] dX5_wrongReadings_3 (by decide) rfl ?_
  have loop4 : ∀ (zn : Nat) (j : Int) (a : Int), 0 ≤ j ∧ j ≤ z_p2 st → a = z_it (fun j a => if z_rt dl (j + 1) g 0 0 st.toNat = 0 then a + 1 else a) 0 j.toNat → (z_p2 st - j) < (zn : Int) → z_V p l e { frames := 2, cells := 0, slots := 0, locals := 46 } s m args below meth c D A 4 0 0 Q [(hW, .inr (5, [.int (z_I t), .int (z_I st), .int (z_I sh), .int (z_I ow), .ref aD, .ref aN, .ref aU])), (aD, z_ai cI 5 dl), (aN, z_ai cI 5 dn), (aU, z_ai cI 105 du)] 4 [(3, .int (z_I (j + 1))), (2, .int (z_I a)), (0, .ref hW), (1, .int (z_I g))] [] := by
    intro zn
    induction zn with
    | zero => intro j a hj ha hm4; exact absurd hm4 (by omega)
    | succ zn4 ih4 =>
      intro j a hj ha hm4
      refine z_iload_n C 0 dX5_wrongReadings_4 rfl ?_
      refine z_iconst C 1 dX5_wrongReadings_5 ?_
      refine z_aload_n C 2 dX5_wrongReadings_6 rfl ?_
      refine z_get C 0 1 zi_X5_wrongReadings_X5 rfl rfl (by decide) zl_X5_wrongReadings_9 rfl rfl dX5_wrongReadings_7 ?_
      refine z_ishl C (z_p2 st) dX5_wrongReadings_10 (z_shl1 (by omega)) ?_
      refine z_icmp_gt C 32 dX5_wrongReadings_11 (by decide) (by omega) (by omega) (fun hc1 => ?_) (fun hc1 => ?_)
      · skip
        obtain rfl : j = z_p2 st := by omega
        refine z_iload_n C 1 dX5_wrongReadings_32 rfl ?_
        exact z_iret C hQ rfl ha dX5_wrongReadings_33
      · skip
        refine z_aload_n C 2 dX5_wrongReadings_14 rfl ?_
        refine z_iload_n C 0 dX5_wrongReadings_15 rfl ?_
        refine z_iload_n C 3 dX5_wrongReadings_16 rfl ?_
        refine z_callVi C [0, 1, 2, 3] [(hW, .inr (5, [.int (z_I t), .int (z_I st), .int (z_I sh), .int (z_I ow), .ref aD, .ref aN, .ref aU])), (aD, z_ai cI 5 dl), (aN, z_ai cI 5 dn), (aU, z_ai cI 105 du)] [.int (z_I (j + 1)), .int (z_I g)] [] (c_X5_readsTrue l D cI cZ cO hW aD aN aU t st sh ow dl dn du (j + 1) g (by first | assumption | omega) (by first | assumption | omega) (by first | assumption | omega) (by first | assumption | omega)) gX5_wrongReadings_X5_readsTrue rfl zd_X5_readsTrue rfl (by decide) rfl rfl rfl (by decide) rfl rfl rfl (Nat.le_of_ble_eq_true rfl) (by decide) dX5_wrongReadings_17 ?_
        have hrt := z_rt01 dl (j + 1) g st.toNat 0 0
        refine z_if_ne C 26 dX5_wrongReadings_20 (by decide) (by omega) (fun hc2 => ?_) (fun hc2 => ?_)
        · skip
          have hz := hc2
          refine z_iinc C 0 [(3, .int (z_I ((j + 1) + 1))), (2, .int (z_I a)), (0, .ref hW), (1, .int (z_I g))] dX5_wrongReadings_26 rfl (by decide) rfl ?_
          refine z_goto C 4 dX5_wrongReadings_29 (by decide) ?_
          exact ih4 (j + 1) a (by first | assumption | omega) (by rw [z_it_next _ _ hj.1, ← ha]; first | rw [if_pos hz] | rw [if_neg hz]) (by omega)
        · skip
          have hz := hc2
          refine z_iinc C 1 [(2, .int (z_I (a + 1))), (3, .int (z_I (j + 1))), (0, .ref hW), (1, .int (z_I g))] dX5_wrongReadings_23 rfl (by decide) rfl ?_
          refine z_iinc C 1 [(3, .int (z_I ((j + 1) + 1))), (2, .int (z_I (a + 1))), (0, .ref hW), (1, .int (z_I g))] dX5_wrongReadings_26 rfl (by decide) rfl ?_
          refine z_goto C 4 dX5_wrongReadings_29 (by decide) ?_
          exact ih4 (j + 1) (a + 1) (by first | assumption | omega) (by rw [z_it_next _ _ hj.1, ← ha]; first | rw [if_pos hz] | rw [if_neg hz]) (by omega)
  refine z_lveq [(3, .int (z_I (0 + 1))), (2, .int (z_I 0)), (0, .ref hW), (1, .int (z_I g))] rfl ?_
  exact loop4 ((z_p2 st).toNat + 1) 0 0 (by first | assumption | omega) rfl (by omega)
