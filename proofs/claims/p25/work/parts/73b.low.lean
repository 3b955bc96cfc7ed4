/-! ===== small ones: low, cell; a new object's world ===== -/
theorem x_c5_le {ct : z_Ct} {n : Int} (hn : 0 ≤ n) : x_c5 ct n ≤ n := by
  obtain ⟨m, rfl⟩ := Int.eq_ofNat_of_zero_le hn
  unfold x_c5
  rw [Int.toNat_natCast]
  induction m with
  | zero => exact Int.le_refl _
  | succ m ih =>
    have h1 := ih (by omega)
    show (if ct.2.1.2.1 (m : Int) = ct.2.1.2.2.2.1 (m : Int) then z_it (fun j a => if ct.2.1.2.1 j = ct.2.1.2.2.2.1 j then a + 1 else a) 0 m + 1 else z_it (fun j a => if ct.2.1.2.1 j = ct.2.1.2.2.2.1 j then a + 1 else a) 0 m) ≤ ((m + 1 : Nat) : Int)
    split <;> omega
theorem p_app (A B : List va_W) : (A ++ []).flatten ++ B.flatten = (A ++ B).flatten := by
  rw [List.append_nil, List.flatten_append]
theorem zd_L_low : yL_low.cls ≠ "java/lang/invoke/MethodHandle" ∧ yL_low.cls ≠ "java/lang/invoke/VarHandle" ∧ (parseMethodDescriptor yL_low.desc).map (fun d => d.parameters.length) = some 2 := by decide +kernel
theorem zd_L_cell : yL_cell.cls ≠ "java/lang/invoke/MethodHandle" ∧ yL_cell.cls ≠ "java/lang/invoke/VarHandle" ∧ (parseMethodDescriptor yL_cell.desc).map (fun d => d.parameters.length) = some 2 := by decide +kernel
theorem zl_L_low_7 : Cond.constant RL 7 (z_I 2147483647) ∈ wsL_low := by decide +kernel
theorem c_L_low (l : Launch) (D : va_G) (tys : List (ClassId × FieldType)) (v k : Int) (hk : 0 < k ∧ k < 2147483648) : z_Mi l yL_low wsL_low 0 0 D tys [.int (z_I v), .int (z_I k)] [] [] (x_lo v k) := by
  refine z_Mi_of (cc := cL_low) (nL := 2) (ret := (some .int)) (by decide +kernel) rfl (Nat.le_of_ble_eq_true rfl) ?_
  intro p e s m args below meth c A Q C hQ
  change z_V p l e { frames := 0, cells := 0, slots := 0, locals := 0 } s m args below meth c D A 2 0 0 Q [] 0 [(0, .int (z_I v)), (1, .int (z_I k))] []
  refine z_iload_n C 0 dL_low_0 rfl ?_
  refine z_ldc C 2147483647 zl_L_low_7 dL_low_1 ?_
  refine z_iand C (x_an v 2147483647) dL_low_3 (x_an_eq _ _) ?_
  refine z_iload_n C 1 dL_low_4 rfl ?_
  refine z_irem C dL_low_5 (x_lo_and v) hk ?_
  exact z_iret C hQ rfl rfl dL_low_6
theorem c_L_cell (l : Launch) (D : va_G) (tys : List (ClassId × FieldType)) (b L : Nat) (xs : Nat → Int32) (k : Int) (hL : L ≤ 260) (hk : 0 ≤ k ∧ k < 110) : z_Mx l yL_cell wsL_cell 0 0 D tys b L xs [.ref b, .int (z_I k)] (if (L : Int) ≤ k then 7919 * (k + 3) * (k + 11) else lw_x xs k) := by
  refine z_Mx_of (cc := cL_cell) (nL := 2) (ret := (some .int)) (by decide +kernel) rfl (Nat.le_of_ble_eq_true rfl) ?_
  intro p e s m args below meth c A Q C hX hbl hbA hQ
  change z_V p l e { frames := 0, cells := 0, slots := 0, locals := 0 } s m args below meth c D A 2 0 0 Q [] 0 [(0, .ref b), (1, .int (z_I k))] []
  refine z_iload_n C 1 dL_cell_0 rfl ?_
  refine z_aload_n C 0 dL_cell_1 rfl ?_
  refine z_slen C hX hbl hbA dL_cell_2 ?_
  refine z_icmp_ge C 12 dL_cell_3 (by decide) (by omega) (by omega) (fun hc => ?_) (fun hc => ?_)
  · refine z_sipush C 7919 dL_cell_12 (by decide) ?_
    refine z_iload_n C 1 dL_cell_15 rfl ?_
    refine z_iconst C 3 dL_cell_16 ?_
    refine z_iadd C dL_cell_17 ?_
    refine z_imul C dL_cell_18 ?_
    refine z_iload_n C 1 dL_cell_19 rfl ?_
    refine z_bipush C 11 dL_cell_20 (by decide) ?_
    refine z_iadd C dL_cell_22 ?_
    refine z_imul C dL_cell_23 ?_
    exact z_iret C hQ rfl (by rw [if_pos hc]) dL_cell_24
  · refine z_aload_n C 0 dL_cell_6 rfl ?_
    refine z_iload_n C 1 dL_cell_7 rfl ?_
    refine z_sld C hX hbl hbA (by omega) (by omega) dL_cell_8 ?_
    refine z_goto C 24 dL_cell_9 (by decide) ?_
    exact z_iret C hQ rfl (by rw [if_neg hc]) dL_cell_24
set_option maxHeartbeats 4000000 in
set_option maxRecDepth 100000 in
theorem p_new {cI cZ cO : ClassId} {hX : Nat} {w : va_W} (h : ∃ (hC hH aH hC_0 hC_1 hC_2 hC_3 hC_4 hC_5 hC_6 aSl aSu hT aDT aNT aUT hP aP hC_s0 hC_s1 : Nat) (q q_0 q_1 q_2 q_3 q_4 q_5 q_6 q_s0 q_s1 : Nat → Nat), w = List.flatten [[(hX, .inr (6, [.ref hC, .ref hH, .ref aSl, .ref aSu, .ref hT, .ref hP]))], z_ctc cI cZ hC (q 1) (q 2) (q 3) (q 4) (q 5) (q 6) (q 7) (q 8) (q 9) (q 10) (q 11) (q 12) (q 13) (q 14) z_ct0, [(hH, .inr (1, [.int (z_I 0), .int (z_I 0), .ref aH]))], [(aH, .inl (cO, 7, .inr (.inr (.inr (.inr (z_rw [hC_0, hC_1, hC_2, hC_3, hC_4, hC_5, hC_6]))))))], z_ctc cI cZ hC_0 (q_0 1) (q_0 2) (q_0 3) (q_0 4) (q_0 5) (q_0 6) (q_0 7) (q_0 8) (q_0 9) (q_0 10) (q_0 11) (q_0 12) (q_0 13) (q_0 14) z_ct0, z_ctc cI cZ hC_1 (q_1 1) (q_1 2) (q_1 3) (q_1 4) (q_1 5) (q_1 6) (q_1 7) (q_1 8) (q_1 9) (q_1 10) (q_1 11) (q_1 12) (q_1 13) (q_1 14) z_ct0, z_ctc cI cZ hC_2 (q_2 1) (q_2 2) (q_2 3) (q_2 4) (q_2 5) (q_2 6) (q_2 7) (q_2 8) (q_2 9) (q_2 10) (q_2 11) (q_2 12) (q_2 13) (q_2 14) z_ct0, z_ctc cI cZ hC_3 (q_3 1) (q_3 2) (q_3 3) (q_3 4) (q_3 5) (q_3 6) (q_3 7) (q_3 8) (q_3 9) (q_3 10) (q_3 11) (q_3 12) (q_3 13) (q_3 14) z_ct0, z_ctc cI cZ hC_4 (q_4 1) (q_4 2) (q_4 3) (q_4 4) (q_4 5) (q_4 6) (q_4 7) (q_4 8) (q_4 9) (q_4 10) (q_4 11) (q_4 12) (q_4 13) (q_4 14) z_ct0, z_ctc cI cZ hC_5 (q_5 1) (q_5 2) (q_5 3) (q_5 4) (q_5 5) (q_5 6) (q_5 7) (q_5 8) (q_5 9) (q_5 10) (q_5 11) (q_5 12) (q_5 13) (q_5 14) z_ct0, z_ctc cI cZ hC_6 (q_6 1) (q_6 2) (q_6 3) (q_6 4) (q_6 5) (q_6 6) (q_6 7) (q_6 8) (q_6 9) (q_6 10) (q_6 11) (q_6 12) (q_6 13) (q_6 14) z_ct0, [(aSl, .inl (cO, 2, .inr (.inr (.inr (.inr (z_rw [hC_s0, hC_s1]))))))], [(aSu, z_ai cZ 2 (fun _ => 0))], [(hT, .inr (5, [.int (z_I 0), .int (z_I 4), .int (z_I 0), .int (z_I 0), .ref aDT, .ref aNT, .ref aUT]))], [(aDT, z_ai cI 5 (fun _ => 3))], [(aNT, z_ai cI 5 (fun _ => 0))], [(aUT, z_ai cI 105 (fun _ => 0))], [(hP, .inr (2, [.int (z_I 0), .ref aP]))], [(aP, z_ai cI 80 (fun _ => 0))], z_ctc cI cZ hC_s0 (q_s0 1) (q_s0 2) (q_s0 3) (q_s0 4) (q_s0 5) (q_s0 6) (q_s0 7) (q_s0 8) (q_s0 9) (q_s0 10) (q_s0 11) (q_s0 12) (q_s0 13) (q_s0 14) z_ct0, z_ctc cI cZ hC_s1 (q_s1 1) (q_s1 2) (q_s1 3) (q_s1 4) (q_s1 5) (q_s1 6) (q_s1 7) (q_s1 8) (q_s1 9) (q_s1 10) (q_s1 11) (q_s1 12) (q_s1 13) (q_s1 14) z_ct0]) : ∃ (g : Nat → Nat) (J : p_J), g 0 = hX ∧ p_ok J ∧ J.1 = 0 ∧ w = (pw cI cZ cO g z_ct0 J).flatten := by
  obtain ⟨hC, hH, aH, hC_0, hC_1, hC_2, hC_3, hC_4, hC_5, hC_6, aSl, aSu, hT, aDT, aNT, aUT, hP, aP, hC_s0, hC_s1, q, q_0, q_1, q_2, q_3, q_4, q_5, q_6, q_s0, q_s1, rfl⟩ := h
  exact ⟨(fun i => ([hX, hC, (q 1), (q 2), (q 3), (q 4), (q 5), (q 6), (q 7), (q 8), (q 9), (q 10), (q 11), (q 12), (q 13), (q 14), hH, aH, hC_0, (q_0 1), (q_0 2), (q_0 3), (q_0 4), (q_0 5), (q_0 6), (q_0 7), (q_0 8), (q_0 9), (q_0 10), (q_0 11), (q_0 12), (q_0 13), (q_0 14), hC_1, (q_1 1), (q_1 2), (q_1 3), (q_1 4), (q_1 5), (q_1 6), (q_1 7), (q_1 8), (q_1 9), (q_1 10), (q_1 11), (q_1 12), (q_1 13), (q_1 14), hC_2, (q_2 1), (q_2 2), (q_2 3), (q_2 4), (q_2 5), (q_2 6), (q_2 7), (q_2 8), (q_2 9), (q_2 10), (q_2 11), (q_2 12), (q_2 13), (q_2 14), hC_3, (q_3 1), (q_3 2), (q_3 3), (q_3 4), (q_3 5), (q_3 6), (q_3 7), (q_3 8), (q_3 9), (q_3 10), (q_3 11), (q_3 12), (q_3 13), (q_3 14), hC_4, (q_4 1), (q_4 2), (q_4 3), (q_4 4), (q_4 5), (q_4 6), (q_4 7), (q_4 8), (q_4 9), (q_4 10), (q_4 11), (q_4 12), (q_4 13), (q_4 14), hC_5, (q_5 1), (q_5 2), (q_5 3), (q_5 4), (q_5 5), (q_5 6), (q_5 7), (q_5 8), (q_5 9), (q_5 10), (q_5 11), (q_5 12), (q_5 13), (q_5 14), hC_6, (q_6 1), (q_6 2), (q_6 3), (q_6 4), (q_6 5), (q_6 6), (q_6 7), (q_6 8), (q_6 9), (q_6 10), (q_6 11), (q_6 12), (q_6 13), (q_6 14), aSl, aSu, hT, aDT, aNT, aUT, hP, aP, hC_s0, (q_s0 1), (q_s0 2), (q_s0 3), (q_s0 4), (q_s0 5), (q_s0 6), (q_s0 7), (q_s0 8), (q_s0 9), (q_s0 10), (q_s0 11), (q_s0 12), (q_s0 13), (q_s0 14), hC_s1, (q_s1 1), (q_s1 2), (q_s1 3), (q_s1 4), (q_s1 5), (q_s1 6), (q_s1 7), (q_s1 8), (q_s1 9), (q_s1 10), (q_s1 11), (q_s1 12), (q_s1 13), (q_s1 14)] : List Nat).getD i 0), (0, 0, fun _ => z_ct0, z_ct0.1), rfl, ⟨⟨by decide, by decide⟩, ⟨by decide, by decide⟩, fun _ _ _ => ⟨z_ok_ct0, by show z_ct0.1.1 ≤ 9999; decide⟩⟩, rfl, rfl⟩
