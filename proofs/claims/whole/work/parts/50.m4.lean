theorem zi_X7_begins_X7 : ∀ w ∈ u_ws RX7 TX7 7, w ∈ wsX7_begins := by decide +kernel
theorem zl_X7_begins_7 : Cond.fieldLink RX7 7 "RippleCountsModel" "s" "[I" ∈ wsX7_begins := by decide +kernel
theorem zd_X7_begins : yX7_begins.cls ≠ "java/lang/invoke/MethodHandle" ∧ yX7_begins.cls ≠ "java/lang/invoke/VarHandle" ∧ (parseMethodDescriptor yX7_begins.desc).map (fun d => d.parameters.length) = some 1 := by decide +kernel
set_option maxHeartbeats 4000000 in
set_option maxRecDepth 100000 in
theorem c_X7_begins (l : Launch) (D : va_G) (cI cZ cO : ClassId) (hM aS aPa aSl aSv aPd : Nat) (kn ln : Int) (f : Int → Int) (b : Int) (ct : z_Ct) (Pq : Int → Int → Prop) (eq0 : Int → Int → Int) (hb : 0 ≤ b ∧ b ≤ 356) (hrl : z_rl ct Pq eq0 b f) : z_Ev (Int → Int) l yX7_begins wsX7_begins 0 0 D (z_T cI cZ cO) [.ref hM, .int (z_I b)] ([(hM, .inr (7, [.ref aS, .ref aPa, .int (z_I kn), .ref aSl, .ref aSv, .ref aPd, .int (z_I ln)])), (aS, z_ai cI 712 f)]) (fun u => [(hM, .inr (7, [.ref aS, .ref aPa, .int (z_I kn), .ref aSl, .ref aSv, .ref aPd, .int (z_I ln)])), (aS, z_ai cI 712 u)]) (fun u => z_rel (z_anew ct ct.1.2.1) b u ∧ z_fr b f u) := by
  refine z_Ev_of (cc := cX7_begins) (nL := 3) (ret := none) (by decide +kernel) rfl (Nat.le_of_ble_eq_true rfl) ?_
  intro p e s m args below meth c A Q C hQ
  change z_V p l e { frames := 0, cells := 0, slots := 0, locals := 0 } s m args below meth c D A 3 0 0 Q ([(hM, .inr (7, [.ref aS, .ref aPa, .int (z_I kn), .ref aSl, .ref aSv, .ref aPd, .int (z_I ln)])), (aS, z_ai cI 712 f)]) 0 [(0, .ref hM), (1, .int (z_I b))] []
  obtain ⟨y0, y1, y2, y3, y4, y5, y6, y7, y8⟩ := hrl.1
  refine z_aload_n C 0 dX7_begins_0 rfl ?_
  refine z_get C 0 0 zi_X7_begins_X7 rfl rfl (by decide) zl_X7_begins_7 rfl rfl dX7_begins_1 ?_
  refine z_iload_n C 1 dX7_begins_4 rfl ?_
  refine z_iconst C 3 dX7_begins_5 ?_
  refine z_iadd C dX7_begins_6 ?_
  refine z_iconst C 0 dX7_begins_7 ?_
  refine z_iast C 1 0 ([(hM, .inr (7, [.ref aS, .ref aPa, .int (z_I kn), .ref aSl, .ref aSv, .ref aPd, .int (z_I ln)])), (aS, z_ai cI 712 (z_u f (b + 3) 0))]) rfl rfl (by decide) (by omega) rfl dX7_begins_8 ?_
  refine z_aload_n C 0 dX7_begins_9 rfl ?_
  refine z_get C 0 0 zi_X7_begins_X7 rfl rfl (by decide) zl_X7_begins_7 rfl rfl dX7_begins_10 ?_
  refine z_iload_n C 1 dX7_begins_13 rfl ?_
  refine z_iconst C 4 dX7_begins_14 ?_
  refine z_iadd C dX7_begins_15 ?_
  refine z_iconst C (-1) dX7_begins_16 ?_
  refine z_iast C 1 0 ([(hM, .inr (7, [.ref aS, .ref aPa, .int (z_I kn), .ref aSl, .ref aSv, .ref aPd, .int (z_I ln)])), (aS, z_ai cI 712 (z_u (z_u f (b + 3) 0) (b + 4) (-1)))]) rfl rfl (by decide) (by omega) rfl dX7_begins_17 ?_
  refine z_aload_n C 0 dX7_begins_18 rfl ?_
  refine z_get C 0 0 zi_X7_begins_X7 rfl rfl (by decide) zl_X7_begins_7 rfl rfl dX7_begins_19 ?_
  refine z_iload_n C 1 dX7_begins_22 rfl ?_
  refine z_iconst C 5 dX7_begins_23 ?_
  refine z_iadd C dX7_begins_24 ?_
  refine z_iconst C (-1) dX7_begins_25 ?_
  refine z_iast C 1 0 ([(hM, .inr (7, [.ref aS, .ref aPa, .int (z_I kn), .ref aSl, .ref aSv, .ref aPd, .int (z_I ln)])), (aS, z_ai cI 712 (z_u (z_u (z_u f (b + 3) 0) (b + 4) (-1)) (b + 5) (-1)))]) rfl rfl (by decide) (by omega) rfl dX7_begins_26 ?_
  refine z_aload_n C 0 dX7_begins_27 rfl ?_
  refine z_get C 0 0 zi_X7_begins_X7 rfl rfl (by decide) zl_X7_begins_7 rfl rfl dX7_begins_28 ?_
  refine z_iload_n C 1 dX7_begins_31 rfl ?_
  refine z_bipush C 6 dX7_begins_32 (by decide) ?_
  refine z_iadd C dX7_begins_34 ?_
  refine z_iconst C 0 dX7_begins_35 ?_
  refine z_iast C 1 0 ([(hM, .inr (7, [.ref aS, .ref aPa, .int (z_I kn), .ref aSl, .ref aSv, .ref aPd, .int (z_I ln)])), (aS, z_ai cI 712 (z_u (z_u (z_u (z_u f (b + 3) 0) (b + 4) (-1)) (b + 5) (-1)) (b + 6) 0))]) rfl rfl (by decide) (by omega) rfl dX7_begins_36 ?_
  refine z_aload_n C 0 dX7_begins_37 rfl ?_
  refine z_get C 0 0 zi_X7_begins_X7 rfl rfl (by decide) zl_X7_begins_7 rfl rfl dX7_begins_38 ?_
  refine z_iload_n C 1 dX7_begins_41 rfl ?_
  refine z_bipush C 7 dX7_begins_42 (by decide) ?_
  refine z_iadd C dX7_begins_44 ?_
  refine z_iconst C 0 dX7_begins_45 ?_
  refine z_iast C 1 0 ([(hM, .inr (7, [.ref aS, .ref aPa, .int (z_I kn), .ref aSl, .ref aSv, .ref aPd, .int (z_I ln)])), (aS, z_ai cI 712 (z_u (z_u (z_u (z_u (z_u f (b + 3) 0) (b + 4) (-1)) (b + 5) (-1)) (b + 6) 0) (b + 7) 0))]) rfl rfl (by decide) (by omega) rfl dX7_begins_46 ?_
  refine z_aload_n C 0 dX7_begins_47 rfl ?_
  refine z_get C 0 0 zi_X7_begins_X7 rfl rfl (by decide) zl_X7_begins_7 rfl rfl dX7_begins_48 ?_
  refine z_iload_n C 1 dX7_begins_51 rfl ?_
  refine z_bipush C 8 dX7_begins_52 (by decide) ?_
  refine z_iadd C dX7_begins_54 ?_
  refine z_iconst C 0 dX7_begins_55 ?_
  refine z_iast C 1 0 ([(hM, .inr (7, [.ref aS, .ref aPa, .int (z_I kn), .ref aSl, .ref aSv, .ref aPd, .int (z_I ln)])), (aS, z_ai cI 712 (z_u (z_u (z_u (z_u (z_u (z_u f (b + 3) 0) (b + 4) (-1)) (b + 5) (-1)) (b + 6) 0) (b + 7) 0) (b + 8) 0))]) rfl rfl (by decide) (by omega) rfl dX7_begins_56 ?_
  refine z_bipush C 14 dX7_begins_57 (by decide) ?_
  refine z_istore_n C [(2, .int (z_I 14)), (0, .ref hM), (1, .int (z_I b))] dX7_begins_59 (by decide) rfl ?_
  have loop60 : ∀ (zn : Nat) (k : Int) (g : Int → Int), 14 ≤ k ∧ k ≤ 129 → (∀ j : Int, g j = if b + 14 ≤ j ∧ j < b + k then 0 else ((z_u (z_u (z_u (z_u (z_u (z_u f (b + 3) 0) (b + 4) (-1)) (b + 5) (-1)) (b + 6) 0) (b + 7) 0) (b + 8) 0)) j) → (129 - k) < (zn : Int) → z_V p l e { frames := 0, cells := 0, slots := 0, locals := 0 } s m args below meth c D A 3 0 0 Q [(hM, .inr (7, [.ref aS, .ref aPa, .int (z_I kn), .ref aSl, .ref aSv, .ref aPd, .int (z_I ln)])), (aS, z_ai cI 712 g)] 60 [(2, .int (z_I k)), (0, .ref hM), (1, .int (z_I b))] [] := by
    intro zn
    induction zn with
    | zero => intro k g hk hg hm60; exact absurd hm60 (by omega)
    | succ zn60 ih60 =>
      intro k g hk hg hm60
      refine z_iload_n C 0 dX7_begins_60 rfl ?_
      refine z_sipush C 129 dX7_begins_61 (by decide) ?_
      refine z_icmp_ge C 82 dX7_begins_64 (by decide) (by omega) (by omega) (fun hc1 => ?_) (fun hc1 => ?_)
      · skip
        have hk9 : k = 129 := by omega
        have hgo : ∀ j : Int, ¬ (b + 14 ≤ j ∧ j < b + 129) → g j = (z_u (z_u (z_u (z_u (z_u (z_u f (b + 3) 0) (b + 4) (-1)) (b + 5) (-1)) (b + 6) 0) (b + 7) 0) (b + 8) 0) j := fun j h => by rw [hg j, if_neg (by omega)]
        exact z_vrete C hQ g rfl ⟨z_rel_anew ⟨by rw [hgo _ (by omega)]; (repeat (first | rw [z_u_same] | rw [z_u_ne (by omega)])); exact y0, by rw [hgo _ (by omega)]; (repeat (first | rw [z_u_same] | rw [z_u_ne (by omega)])); exact y1, by rw [hgo _ (by omega)]; (repeat (first | rw [z_u_same] | rw [z_u_ne (by omega)])); exact y2, by rw [hgo _ (by omega)]; (repeat (first | rw [z_u_same] | rw [z_u_ne (by omega)])), by rw [hgo _ (by omega)]; (repeat (first | rw [z_u_same] | rw [z_u_ne (by omega)])), by rw [hgo _ (by omega)]; (repeat (first | rw [z_u_same] | rw [z_u_ne (by omega)])), by rw [hgo _ (by omega)]; (repeat (first | rw [z_u_same] | rw [z_u_ne (by omega)])), by rw [hgo _ (by omega)]; (repeat (first | rw [z_u_same] | rw [z_u_ne (by omega)])), by rw [hgo _ (by omega)]; (repeat (first | rw [z_u_same] | rw [z_u_ne (by omega)]))⟩ (fun j j1 j2 => by rw [hgo _ (by omega)]; (repeat (first | rw [z_u_same] | rw [z_u_ne (by omega)])); exact (hrl.2.1 j j1 j2).1) (fun j j1 j2 => by rw [hg j, if_pos (by omega)]), fun j hj => by rw [hgo _ (by omega)]; (repeat rw [z_u_ne (by omega)])⟩ dX7_begins_82
      · skip
        refine z_aload_n C 1 dX7_begins_67 rfl ?_
        refine z_get C 0 0 zi_X7_begins_X7 rfl rfl (by decide) zl_X7_begins_7 rfl rfl dX7_begins_68 ?_
        refine z_iload_n C 2 dX7_begins_71 rfl ?_
        refine z_iload_n C 0 dX7_begins_72 rfl ?_
        refine z_iadd C dX7_begins_73 ?_
        refine z_iconst C 0 dX7_begins_74 ?_
        refine z_iast C 1 0 ([(hM, .inr (7, [.ref aS, .ref aPa, .int (z_I kn), .ref aSl, .ref aSv, .ref aPd, .int (z_I ln)])), (aS, z_ai cI 712 (z_u g (b + k) 0))]) rfl rfl (by decide) (by omega) rfl dX7_begins_75 ?_
        refine z_iinc C 0 [(2, .int (z_I (k + 1))), (0, .ref hM), (1, .int (z_I b))] dX7_begins_76 rfl (by decide) rfl ?_
        refine z_goto C 60 dX7_begins_79 (by decide) ?_
        exact ih60 (k + 1) (z_u g (b + k) 0) (by first | assumption | omega) (fun j => by by_cases h3 : j = b + k; (· rw [h3, z_u_same, if_pos (by omega)]); (· rw [z_u_ne h3, hg j]; by_cases h4 : b + 14 ≤ j ∧ j < b + k; (· rw [if_pos h4, if_pos (by omega)]); (· rw [if_neg h4, if_neg (by omega)]))) (by omega)
  exact loop60 116 14 (z_u (z_u (z_u (z_u (z_u (z_u f (b + 3) 0) (b + 4) (-1)) (b + 5) (-1)) (b + 6) 0) (b + 7) 0) (b + 8) 0) (by first | assumption | omega) (fun j => by rw [if_neg (by omega)]) (by omega)
theorem zi_X7_copies_X7 : ∀ w ∈ u_ws RX7 TX7 7, w ∈ wsX7_copies := by decide +kernel
theorem zl_X7_copies_7 : Cond.fieldLink RX7 7 "RippleCountsModel" "s" "[I" ∈ wsX7_copies := by decide +kernel
theorem zd_X7_copies : yX7_copies.cls ≠ "java/lang/invoke/MethodHandle" ∧ yX7_copies.cls ≠ "java/lang/invoke/VarHandle" ∧ (parseMethodDescriptor yX7_copies.desc).map (fun d => d.parameters.length) = some 0 := by decide +kernel
set_option maxHeartbeats 4000000 in
set_option maxRecDepth 100000 in
theorem c_X7_copies (l : Launch) (D : va_G) (cI cZ cO : ClassId) (hM aS aPa aSl aSv aPd : Nat) (kn ln : Int) (f : Int → Int) : z_Ev (Int → Int) l yX7_copies wsX7_copies 0 0 D (z_T cI cZ cO) [.ref hM] ([(hM, .inr (7, [.ref aS, .ref aPa, .int (z_I kn), .ref aSl, .ref aSv, .ref aPd, .int (z_I ln)])), (aS, z_ai cI 712 f)]) (fun u => [(hM, .inr (7, [.ref aS, .ref aPa, .int (z_I kn), .ref aSl, .ref aSv, .ref aPd, .int (z_I ln)])), (aS, z_ai cI 712 u)]) (fun u => (∀ j : Int, u j = if 356 ≤ j ∧ j < 712 then f (j - 356) else f j)) := by
  refine z_Ev_of (cc := cX7_copies) (nL := 2) (ret := none) (by decide +kernel) rfl (Nat.le_of_ble_eq_true rfl) ?_
  intro p e s m args below meth c A Q C hQ
  change z_V p l e { frames := 0, cells := 0, slots := 0, locals := 0 } s m args below meth c D A 2 0 0 Q ([(hM, .inr (7, [.ref aS, .ref aPa, .int (z_I kn), .ref aSl, .ref aSv, .ref aPd, .int (z_I ln)])), (aS, z_ai cI 712 f)]) 0 [(0, .ref hM)] []
  refine z_iconst C 0 dX7_copies_0 ?_
  refine z_istore_n C [(1, .int (z_I 0)), (0, .ref hM)] dX7_copies_1 (by decide) rfl ?_
  have loop2 : ∀ (zn : Nat) (k : Int) (g : Int → Int), 0 ≤ k ∧ k ≤ 356 → (∀ j : Int, g j = if 356 ≤ j ∧ j < 356 + k then f (j - 356) else f j) → (356 - k) < (zn : Int) → z_V p l e { frames := 0, cells := 0, slots := 0, locals := 0 } s m args below meth c D A 2 0 0 Q [(hM, .inr (7, [.ref aS, .ref aPa, .int (z_I kn), .ref aSl, .ref aSv, .ref aPd, .int (z_I ln)])), (aS, z_ai cI 712 g)] 2 [(1, .int (z_I k)), (0, .ref hM)] [] := by
    intro zn
    induction zn with
    | zero => intro k g hk hg hm2; exact absurd hm2 (by omega)
    | succ zn2 ih2 =>
      intro k g hk hg hm2
      refine z_iload_n C 0 dX7_copies_2 rfl ?_
      refine z_sipush C 356 dX7_copies_3 (by decide) ?_
      refine z_icmp_ge C 31 dX7_copies_6 (by decide) (by omega) (by omega) (fun hc1 => ?_) (fun hc1 => ?_)
      · skip
        have hk9 : k = 356 := by omega
        exact z_vrete C hQ g rfl (fun j => by rw [hg j, hk9, show (356 : Int) + 356 = 712 by omega]) dX7_copies_31
      · skip
        refine z_aload_n C 1 dX7_copies_9 rfl ?_
        refine z_get C 0 0 zi_X7_copies_X7 rfl rfl (by decide) zl_X7_copies_7 rfl rfl dX7_copies_10 ?_
        refine z_sipush C 356 dX7_copies_13 (by decide) ?_
        refine z_iload_n C 0 dX7_copies_16 rfl ?_
        refine z_iadd C dX7_copies_17 ?_
        refine z_aload_n C 1 dX7_copies_18 rfl ?_
        refine z_get C 0 0 zi_X7_copies_X7 rfl rfl (by decide) zl_X7_copies_7 rfl rfl dX7_copies_19 ?_
        refine z_iload_n C 0 dX7_copies_22 rfl ?_
        refine z_iald C 1 0 rfl rfl (by decide) (by omega) dX7_copies_23 ?_
        refine z_iast C 1 0 ([(hM, .inr (7, [.ref aS, .ref aPa, .int (z_I kn), .ref aSl, .ref aSv, .ref aPd, .int (z_I ln)])), (aS, z_ai cI 712 (z_u g (356 + k) (g k)))]) rfl rfl (by decide) (by omega) rfl dX7_copies_24 ?_
        refine z_iinc C 0 [(1, .int (z_I (k + 1))), (0, .ref hM)] dX7_copies_25 rfl (by decide) rfl ?_
        refine z_goto C 2 dX7_copies_28 (by decide) ?_
        exact ih2 (k + 1) (z_u g (356 + k) (g k)) (by first | assumption | omega) (fun j => by by_cases h3 : j = 356 + k; (· rw [h3, z_u_same, if_pos (by omega), hg k, if_neg (by omega)]; congr 1; omega); (· rw [z_u_ne h3, hg j]; by_cases h4 : 356 ≤ j ∧ j < 356 + k; (· rw [if_pos h4, if_pos (by omega)]); (· rw [if_neg h4, if_neg (by omega)]))) (by omega)
  exact loop2 357 0 f (by first | assumption | omega) (fun j => by rw [if_neg (by omega)]) (by omega)
theorem zi_X7_remembers_X7 : ∀ w ∈ u_ws RX7 TX7 7, w ∈ wsX7_remembers := by decide +kernel
theorem zl_X7_remembers_13 : Cond.fieldLink RX7 13 "RippleCountsModel" "past" "[I" ∈ wsX7_remembers := by decide +kernel
theorem zl_X7_remembers_30 : Cond.fieldLink RX7 30 "RippleCountsModel" "known" "I" ∈ wsX7_remembers := by decide +kernel
theorem zl_X7_remembers_7 : Cond.fieldLink RX7 7 "RippleCountsModel" "s" "[I" ∈ wsX7_remembers := by decide +kernel
theorem zd_X7_remembers : yX7_remembers.cls ≠ "java/lang/invoke/MethodHandle" ∧ yX7_remembers.cls ≠ "java/lang/invoke/VarHandle" ∧ (parseMethodDescriptor yX7_remembers.desc).map (fun d => d.parameters.length) = some 0 := by decide +kernel
set_option maxHeartbeats 4000000 in
set_option maxRecDepth 100000 in
theorem c_X7_remembers (l : Launch) (D : va_G) (cI cZ cO : ClassId) (hM aS aPa aSl aSv aPd : Nat) (kn ln : Int) (f : Int → Int) (pf : Int → Int) (hkn : 0 ≤ kn ∧ kn ≤ 6) : z_Mv l yX7_remembers wsX7_remembers 0 0 D (z_T cI cZ cO) [.ref hM] ([(hM, .inr (7, [.ref aS, .ref aPa, .int (z_I kn), .ref aSl, .ref aSv, .ref aPd, .int (z_I ln)])), (aS, z_ai cI 712 f), (aPa, z_ai cI 2136 pf)]) ([(hM, .inr (7, [.ref aS, .ref aPa, .int (z_I (if kn = 6 then 6 else kn + 1)), .ref aSl, .ref aSv, .ref aPd, .int (z_I ln)])), (aS, z_ai cI 712 f), (aPa, z_ai cI 2136 (z_rem f pf kn))]) := by
  refine z_Mv_of (cc := cX7_remembers) (nL := 2) (ret := none) (by decide +kernel) rfl (Nat.le_of_ble_eq_true rfl) ?_
  intro p e s m args below meth c A Q C hQ
  change z_V p l e { frames := 0, cells := 0, slots := 0, locals := 0 } s m args below meth c D A 2 0 0 Q ([(hM, .inr (7, [.ref aS, .ref aPa, .int (z_I kn), .ref aSl, .ref aSv, .ref aPd, .int (z_I ln)])), (aS, z_ai cI 712 f), (aPa, z_ai cI 2136 pf)]) 0 [(0, .ref hM)] []
  refine z_aload_n C 0 dX7_remembers_0 rfl ?_
  refine z_get C 0 2 zi_X7_remembers_X7 rfl rfl (by decide) zl_X7_remembers_30 rfl rfl dX7_remembers_1 ?_
  refine z_bipush C 6 dX7_remembers_4 (by decide) ?_
  refine z_icmp_ne C 50 dX7_remembers_6 (by decide) (by omega) (by omega) (fun hc1 => ?_) (fun hc1 => ?_)
  · skip
    have h6 : ¬ kn = 6 := hc1
    have hbase : ∀ j : Int, pf j = if kn = 6 ∧ 0 ≤ j ∧ j < 1780 then pf (356 + j) else pf j := fun j => by rw [if_neg (by omega)]
    refine z_iconst C 0 dX7_remembers_50 ?_
    refine z_istore_n C [(1, .int (z_I 0)), (0, .ref hM)] dX7_remembers_51 (by decide) rfl ?_
    have loop52 : ∀ (zn : Nat) (k2 : Int) (g4 : Int → Int), 0 ≤ k2 ∧ k2 ≤ 356 → (∀ j : Int, g4 j = if 356 * (kn) ≤ j ∧ j < 356 * (kn) + k2 then f (j - 356 * (kn)) else if kn = 6 ∧ 0 ≤ j ∧ j < 1780 then pf (356 + j) else pf j) → (356 - k2) < (zn : Int) → z_V p l e { frames := 0, cells := 0, slots := 0, locals := 0 } s m args below meth c D A 2 0 0 Q [(hM, .inr (7, [.ref aS, .ref aPa, .int (z_I kn), .ref aSl, .ref aSv, .ref aPd, .int (z_I ln)])), (aS, z_ai cI 712 f), (aPa, z_ai cI 2136 g4)] 52 [(1, .int (z_I k2)), (0, .ref hM)] [] := by
      intro zn
      induction zn with
      | zero => intro k2 g4 hk2 hg4 hm52; exact absurd hm52 (by omega)
      | succ zn52 ih52 =>
        intro k2 g4 hk2 hg4 hm52
        refine z_iload_n C 0 dX7_remembers_52 rfl ?_
        refine z_sipush C 356 dX7_remembers_53 (by decide) ?_
        refine z_icmp_ge C 86 dX7_remembers_56 (by decide) (by omega) (by omega) (fun hc2 => ?_) (fun hc2 => ?_)
        · skip
          have hk9 : k2 = 356 := by omega
          have hge : g4 = z_rem f pf kn := by
            funext j
            rw [hg4 j, hk9]
            unfold z_rem
            first | (rw [if_neg (show ¬ kn = 6 from h6)]; done) | (rw [if_pos (show kn = 6 from h6)]; rw [show kn - 1 = 5 by omega])
          refine z_aload_n C 1 dX7_remembers_86 rfl ?_
          refine z_dup C dX7_remembers_87 rfl ?_
          refine z_get C 0 2 zi_X7_remembers_X7 rfl rfl (by decide) zl_X7_remembers_30 rfl rfl dX7_remembers_88 ?_
          refine z_iconst C 1 dX7_remembers_91 ?_
          refine z_iadd C dX7_remembers_92 ?_
          refine z_put C 0 2 ([(hM, .inr (7, [.ref aS, .ref aPa, .int (z_I (kn + 1)), .ref aSl, .ref aSv, .ref aPd, .int (z_I ln)])), (aS, z_ai cI 712 f), (aPa, z_ai cI 2136 g4)]) zi_X7_remembers_X7 tyX7_ok nmX7 rfl rfl (by decide) zl_X7_remembers_30 rfl rfl rfl rfl (Nat.le_of_ble_eq_true rfl) rfl dX7_remembers_93 ?_
          exact z_vret C hQ (by rw [hge]; first | (rw [if_neg h6]; done) | (rw [if_pos h6, show kn - 1 + 1 = 6 by omega]; done)) dX7_remembers_96
        · skip
          refine z_aload_n C 1 dX7_remembers_59 rfl ?_
          refine z_get C 0 1 zi_X7_remembers_X7 rfl rfl (by decide) zl_X7_remembers_13 rfl rfl dX7_remembers_60 ?_
          refine z_sipush C 356 dX7_remembers_63 (by decide) ?_
          refine z_aload_n C 1 dX7_remembers_66 rfl ?_
          refine z_get C 0 2 zi_X7_remembers_X7 rfl rfl (by decide) zl_X7_remembers_30 rfl rfl dX7_remembers_67 ?_
          refine z_imul C dX7_remembers_70 ?_
          refine z_iload_n C 0 dX7_remembers_71 rfl ?_
          refine z_iadd C dX7_remembers_72 ?_
          refine z_aload_n C 1 dX7_remembers_73 rfl ?_
          refine z_get C 0 0 zi_X7_remembers_X7 rfl rfl (by decide) zl_X7_remembers_7 rfl rfl dX7_remembers_74 ?_
          refine z_iload_n C 0 dX7_remembers_77 rfl ?_
          refine z_iald C 1 0 rfl rfl (by decide) (by omega) dX7_remembers_78 ?_
          refine z_iast C 2 0 ([(hM, .inr (7, [.ref aS, .ref aPa, .int (z_I kn), .ref aSl, .ref aSv, .ref aPd, .int (z_I ln)])), (aS, z_ai cI 712 f), (aPa, z_ai cI 2136 (z_u g4 ((356 * kn) + k2) (f k2)))]) rfl rfl (by decide) (by omega) rfl dX7_remembers_79 ?_
          refine z_iinc C 0 [(1, .int (z_I (k2 + 1))), (0, .ref hM)] dX7_remembers_80 rfl (by decide) rfl ?_
          refine z_goto C 52 dX7_remembers_83 (by decide) ?_
          exact ih52 (k2 + 1) (z_u g4 ((356 * kn) + k2) (f k2)) (by first | assumption | omega) (fun j => by by_cases h3 : j = 356 * (kn) + k2; (· rw [h3, z_u_same, if_pos (by omega)]; congr 1; omega); (· rw [z_u_ne h3, hg4 j]; by_cases h4 : 356 * (kn) ≤ j ∧ j < 356 * (kn) + k2; (· rw [if_pos h4, if_pos (by omega)]); (· rw [if_neg h4, if_neg (show ¬ (356 * (kn) ≤ j ∧ j < 356 * (kn) + (k2 + 1)) by omega)]))) (by omega)
    exact loop52 357 0 pf (by first | assumption | omega) (fun j => by rw [if_neg (by omega)]; exact hbase j) (by omega)
  · skip
    have h6 : kn = 6 := by omega
    refine z_iconst C 0 dX7_remembers_9 ?_
    refine z_istore_n C [(1, .int (z_I 0)), (0, .ref hM)] dX7_remembers_10 (by decide) rfl ?_
    have loop11 : ∀ (zn : Nat) (k : Int) (g : Int → Int), 0 ≤ k ∧ k ≤ 1780 → (∀ j : Int, g j = if 0 ≤ j ∧ j < k then pf (356 + j) else pf j) → (1780 - k) < (zn : Int) → z_V p l e { frames := 0, cells := 0, slots := 0, locals := 0 } s m args below meth c D A 2 0 0 Q [(hM, .inr (7, [.ref aS, .ref aPa, .int (z_I kn), .ref aSl, .ref aSv, .ref aPd, .int (z_I ln)])), (aS, z_ai cI 712 f), (aPa, z_ai cI 2136 g)] 11 [(1, .int (z_I k)), (0, .ref hM)] [] := by
      intro zn
      induction zn with
      | zero => intro k g hk hg hm11; exact absurd hm11 (by omega)
      | succ zn11 ih11 =>
        intro k g hk hg hm11
        refine z_iload_n C 0 dX7_remembers_11 rfl ?_
        refine z_sipush C 1780 dX7_remembers_12 (by decide) ?_
        refine z_icmp_ge C 40 dX7_remembers_15 (by decide) (by omega) (by omega) (fun hc3 => ?_) (fun hc3 => ?_)
        · skip
          have hbase : ∀ j : Int, g j = if kn = 6 ∧ 0 ≤ j ∧ j < 1780 then pf (356 + j) else pf j := fun j => by
            rw [hg j]
            by_cases h4 : 0 ≤ j ∧ j < k
            · rw [if_pos h4, if_pos (by omega)]
            · rw [if_neg h4, if_neg (by omega)]
          refine z_aload_n C 1 dX7_remembers_40 rfl ?_
          refine z_dup C dX7_remembers_41 rfl ?_
          refine z_get C 0 2 zi_X7_remembers_X7 rfl rfl (by decide) zl_X7_remembers_30 rfl rfl dX7_remembers_42 ?_
          refine z_iconst C 1 dX7_remembers_45 ?_
          refine z_isub C dX7_remembers_46 ?_
          refine z_put C 0 2 ([(hM, .inr (7, [.ref aS, .ref aPa, .int (z_I (kn - 1)), .ref aSl, .ref aSv, .ref aPd, .int (z_I ln)])), (aS, z_ai cI 712 f), (aPa, z_ai cI 2136 g)]) zi_X7_remembers_X7 tyX7_ok nmX7 rfl rfl (by decide) zl_X7_remembers_30 rfl rfl rfl rfl (Nat.le_of_ble_eq_true rfl) rfl dX7_remembers_47 ?_
          refine z_iconst C 0 dX7_remembers_50 ?_
          refine z_istore_n C [(1, .int (z_I 0)), (0, .ref hM)] dX7_remembers_51 (by decide) rfl ?_
          have loop52 : ∀ (zn : Nat) (k2 : Int) (g4 : Int → Int), 0 ≤ k2 ∧ k2 ≤ 356 → (∀ j : Int, g4 j = if 356 * (kn - 1) ≤ j ∧ j < 356 * (kn - 1) + k2 then f (j - 356 * (kn - 1)) else if kn = 6 ∧ 0 ≤ j ∧ j < 1780 then pf (356 + j) else pf j) → (356 - k2) < (zn : Int) → z_V p l e { frames := 0, cells := 0, slots := 0, locals := 0 } s m args below meth c D A 2 0 0 Q [(hM, .inr (7, [.ref aS, .ref aPa, .int (z_I (kn - 1)), .ref aSl, .ref aSv, .ref aPd, .int (z_I ln)])), (aS, z_ai cI 712 f), (aPa, z_ai cI 2136 g4)] 52 [(1, .int (z_I k2)), (0, .ref hM)] [] := by
            intro zn
            induction zn with
            | zero => intro k2 g4 hk2 hg4 hm52; exact absurd hm52 (by omega)
            | succ zn52 ih52 =>
              intro k2 g4 hk2 hg4 hm52
              refine z_iload_n C 0 dX7_remembers_52 rfl ?_
              refine z_sipush C 356 dX7_remembers_53 (by decide) ?_
              refine z_icmp_ge C 86 dX7_remembers_56 (by decide) (by omega) (by omega) (fun hc4 => ?_) (fun hc4 => ?_)
              · skip
                have hk9 : k2 = 356 := by omega
                have hge : g4 = z_rem f pf kn := by
                  funext j
                  rw [hg4 j, hk9]
                  unfold z_rem
                  first | (rw [if_neg (show ¬ kn = 6 from h6)]; done) | (rw [if_pos (show kn = 6 from h6)]; rw [show kn - 1 = 5 by omega])
                refine z_aload_n C 1 dX7_remembers_86 rfl ?_
                refine z_dup C dX7_remembers_87 rfl ?_
                refine z_get C 0 2 zi_X7_remembers_X7 rfl rfl (by decide) zl_X7_remembers_30 rfl rfl dX7_remembers_88 ?_
                refine z_iconst C 1 dX7_remembers_91 ?_
                refine z_iadd C dX7_remembers_92 ?_
                refine z_put C 0 2 ([(hM, .inr (7, [.ref aS, .ref aPa, .int (z_I ((kn - 1) + 1)), .ref aSl, .ref aSv, .ref aPd, .int (z_I ln)])), (aS, z_ai cI 712 f), (aPa, z_ai cI 2136 g4)]) zi_X7_remembers_X7 tyX7_ok nmX7 rfl rfl (by decide) zl_X7_remembers_30 rfl rfl rfl rfl (Nat.le_of_ble_eq_true rfl) rfl dX7_remembers_93 ?_
                exact z_vret C hQ (by rw [hge]; first | (rw [if_neg h6]; done) | (rw [if_pos h6, show kn - 1 + 1 = 6 by omega]; done)) dX7_remembers_96
              · skip
                refine z_aload_n C 1 dX7_remembers_59 rfl ?_
                refine z_get C 0 1 zi_X7_remembers_X7 rfl rfl (by decide) zl_X7_remembers_13 rfl rfl dX7_remembers_60 ?_
                refine z_sipush C 356 dX7_remembers_63 (by decide) ?_
                refine z_aload_n C 1 dX7_remembers_66 rfl ?_
                refine z_get C 0 2 zi_X7_remembers_X7 rfl rfl (by decide) zl_X7_remembers_30 rfl rfl dX7_remembers_67 ?_
                refine z_imul C dX7_remembers_70 ?_
                refine z_iload_n C 0 dX7_remembers_71 rfl ?_
                refine z_iadd C dX7_remembers_72 ?_
                refine z_aload_n C 1 dX7_remembers_73 rfl ?_
                refine z_get C 0 0 zi_X7_remembers_X7 rfl rfl (by decide) zl_X7_remembers_7 rfl rfl dX7_remembers_74 ?_
                refine z_iload_n C 0 dX7_remembers_77 rfl ?_
                refine z_iald C 1 0 rfl rfl (by decide) (by omega) dX7_remembers_78 ?_
                refine z_iast C 2 0 ([(hM, .inr (7, [.ref aS, .ref aPa, .int (z_I (kn - 1)), .ref aSl, .ref aSv, .ref aPd, .int (z_I ln)])), (aS, z_ai cI 712 f), (aPa, z_ai cI 2136 (z_u g4 ((356 * (kn - 1)) + k2) (f k2)))]) rfl rfl (by decide) (by omega) rfl dX7_remembers_79 ?_
                refine z_iinc C 0 [(1, .int (z_I (k2 + 1))), (0, .ref hM)] dX7_remembers_80 rfl (by decide) rfl ?_
                refine z_goto C 52 dX7_remembers_83 (by decide) ?_
                exact ih52 (k2 + 1) (z_u g4 ((356 * (kn - 1)) + k2) (f k2)) (by first | assumption | omega) (fun j => by by_cases h3 : j = 356 * (kn - 1) + k2; (· rw [h3, z_u_same, if_pos (by omega)]; congr 1; omega); (· rw [z_u_ne h3, hg4 j]; by_cases h4 : 356 * (kn - 1) ≤ j ∧ j < 356 * (kn - 1) + k2; (· rw [if_pos h4, if_pos (by omega)]); (· rw [if_neg h4, if_neg (show ¬ (356 * (kn - 1) ≤ j ∧ j < 356 * (kn - 1) + (k2 + 1)) by omega)]))) (by omega)
          exact loop52 357 0 g (by first | assumption | omega) (fun j => by rw [if_neg (by omega)]; exact hbase j) (by omega)
        · skip
          refine z_aload_n C 1 dX7_remembers_18 rfl ?_
          refine z_get C 0 1 zi_X7_remembers_X7 rfl rfl (by decide) zl_X7_remembers_13 rfl rfl dX7_remembers_19 ?_
          refine z_iload_n C 0 dX7_remembers_22 rfl ?_
          refine z_aload_n C 1 dX7_remembers_23 rfl ?_
          refine z_get C 0 1 zi_X7_remembers_X7 rfl rfl (by decide) zl_X7_remembers_13 rfl rfl dX7_remembers_24 ?_
          refine z_sipush C 356 dX7_remembers_27 (by decide) ?_
          refine z_iload_n C 0 dX7_remembers_30 rfl ?_
          refine z_iadd C dX7_remembers_31 ?_
          refine z_iald C 2 0 rfl rfl (by decide) (by omega) dX7_remembers_32 ?_
          refine z_iast C 2 0 ([(hM, .inr (7, [.ref aS, .ref aPa, .int (z_I kn), .ref aSl, .ref aSv, .ref aPd, .int (z_I ln)])), (aS, z_ai cI 712 f), (aPa, z_ai cI 2136 (z_u g k (g (356 + k))))]) rfl rfl (by decide) (by omega) rfl dX7_remembers_33 ?_
          refine z_iinc C 0 [(1, .int (z_I (k + 1))), (0, .ref hM)] dX7_remembers_34 rfl (by decide) rfl ?_
          refine z_goto C 11 dX7_remembers_37 (by decide) ?_
          exact ih11 (k + 1) (z_u g k (g (356 + k))) (by first | assumption | omega) (fun j => by by_cases h3 : j = k; (· rw [h3, z_u_same, if_pos (by omega), hg (356 + k), if_neg (by omega)]); (· rw [z_u_ne h3, hg j]; by_cases h4 : 0 ≤ j ∧ j < k; (· rw [if_pos h4, if_pos (by omega)]); (· rw [if_neg h4, if_neg (by omega)]))) (by omega)
    exact loop11 1781 0 pf (by first | assumption | omega) (fun j => by rw [if_neg (by omega)]) (by omega)
theorem zi_X7_clockNow_X7 : ∀ w ∈ u_ws RX7 TX7 7, w ∈ wsX7_clockNow := by decide +kernel
theorem zl_X7_clockNow_7 : Cond.fieldLink RX7 7 "RippleCountsModel" "s" "[I" ∈ wsX7_clockNow := by decide +kernel
theorem zd_X7_clockNow : yX7_clockNow.cls ≠ "java/lang/invoke/MethodHandle" ∧ yX7_clockNow.cls ≠ "java/lang/invoke/VarHandle" ∧ (parseMethodDescriptor yX7_clockNow.desc).map (fun d => d.parameters.length) = some 0 := by decide +kernel
set_option maxHeartbeats 4000000 in
set_option maxRecDepth 100000 in
theorem c_X7_clockNow (l : Launch) (D : va_G) (cI cZ cO : ClassId) (hM aS aPa aSl aSv aPd : Nat) (kn ln : Int) (f : Int → Int) (ct : z_Ct) (hrel : z_rel ct 0 f) (hok : z_ok ct) (htt : ct.1.1 ≤ 9999) : z_Ei (Int → Int) l yX7_clockNow wsX7_clockNow 3 65 D (z_T cI cZ cO) [.ref hM] ([(hM, .inr (7, [.ref aS, .ref aPa, .int (z_I kn), .ref aSl, .ref aSv, .ref aPd, .int (z_I ln)])), (aS, z_ai cI 712 f)]) (fun u => [(hM, .inr (7, [.ref aS, .ref aPa, .int (z_I kn), .ref aSl, .ref aSv, .ref aPd, .int (z_I ln)])), (aS, z_ai cI 712 u)]) (fun ri u => ri = z_tcA ct ∧ z_rel (z_tc ct) 0 u ∧ z_fr 0 f u) := by
  refine z_Ei_of (cc := cX7_clockNow) (nL := 1) (ret := (some .int)) (by decide +kernel) rfl (Nat.le_of_ble_eq_true rfl) ?_
  intro p e s m args below meth c A Q C hQ
  change z_V p l e { frames := 3, cells := 0, slots := 0, locals := 65 } s m args below meth c D A 1 0 0 Q ([(hM, .inr (7, [.ref aS, .ref aPa, .int (z_I kn), .ref aSl, .ref aSv, .ref aPd, .int (z_I ln)])), (aS, z_ai cI 712 f)]) 0 [(0, .ref hM)] []
  obtain ⟨hw, hrd, hsg, hho, hck, hlc, hld, hlw, hrl0⟩ := id hok
  obtain ⟨ht0, hst, hsh, hdl, hdu, hdn, hB, htot, hbit, hzero, how⟩ := id hw
  obtain ⟨hrn, hrr, hla⟩ := id hrd
  obtain ⟨hsn, hrk, hfo, hcnt, hinj, hsur⟩ := id hsg
  have hp := z_p2_le (k := ct.1.2.1) (by omega)
  obtain ⟨y0, y1, y2, y3, y4, y5, y6, y7, y8⟩ := hrel.1
  simp only [Int.zero_add] at y1 y2 y3 y4 y5 y6 y7 y8
  refine z_aload_n C 0 dX7_clockNow_0 rfl ?_
  refine z_get C 0 0 zi_X7_clockNow_X7 rfl rfl (by decide) zl_X7_clockNow_7 rfl rfl dX7_clockNow_1 ?_
  refine z_iconst C 4 dX7_clockNow_4 ?_
  refine z_iald C 1 0 rfl rfl (by decide) (by omega) dX7_clockNow_5 ?_
  refine z_aload_n C 0 dX7_clockNow_6 rfl ?_
  refine z_get C 0 0 zi_X7_clockNow_X7 rfl rfl (by decide) zl_X7_clockNow_7 rfl rfl dX7_clockNow_7 ?_
  refine z_iconst C 2 dX7_clockNow_10 ?_
  refine z_iald C 1 0 rfl rfl (by decide) (by omega) dX7_clockNow_11 ?_
  refine z_icmp_ne C 18 dX7_clockNow_12 (by decide) (by omega) (by omega) (fun hc1 => ?_) (fun hc1 => ?_)
  · skip
    have hck9 := z_rel_ck hrel hok
    have hE : ¬ ct.2.2.2.2.2.1 = ct.1.1 := by omega
    refine z_aload_n C 0 dX7_clockNow_18 rfl ?_
    refine z_iconst C 0 dX7_clockNow_19 ?_
    refine z_callVv C [0, 1] [(hM, .inr (7, [.ref aS, .ref aPa, .int (z_I kn), .ref aSl, .ref aSv, .ref aPd, .int (z_I ln)])), (aS, z_ai cI 712 (z_ck 0 f))] [.int (z_I 0)] [] (c_X7_clocks l D cI cZ cO hM aS aPa aSl aSv aPd kn ln f 0 (by first | assumption | omega) (by rw [y0]; omega) (by have h9 := (hrel.2.1 0 (by omega) (by omega)).1; have h8 := hdl 0 (by omega) (by omega); rw [show (0 : Int) + 9 = 0 + 9 + 0 by omega, h9]; omega) (by rw [Int.zero_add, y3]; omega)) gX7_clockNow_X7_clocks rfl zd_X7_clocks rfl (by decide) rfl rfl rfl (by decide) rfl rfl rfl (Nat.le_of_ble_eq_true rfl) (by decide) dX7_clockNow_20 ?_
    refine z_aload_n C 0 dX7_clockNow_23 rfl ?_
    refine z_get C 0 0 zi_X7_clockNow_X7 rfl rfl (by decide) zl_X7_clockNow_7 rfl rfl dX7_clockNow_24 ?_
    refine z_iconst C 3 dX7_clockNow_27 ?_
    refine z_iald C 1 0 rfl rfl (by decide) (by omega) dX7_clockNow_28 ?_
    exact z_irete C hQ (z_ck 0 f) rfl ⟨by rw [show z_tcA ct = (ct.2.2.2.2.1 + 1) % z_p2 ct.1.2.1 from if_neg hE]; have h9 := hck9.2.2; rw [Int.zero_add] at h9; exact h9, by rw [show z_tc ct = z_take ct from if_neg hE]; exact hck9.1, hck9.2.1⟩ dX7_clockNow_29
  · skip
    refine z_bipush C (-5) dX7_clockNow_15 (by decide) ?_
    exact z_irete C hQ f rfl ⟨(show -5 = z_tcA ct from (if_pos (by omega)).symm), by rw [show z_tc ct = ct from if_pos (by omega)]; exact hrel, fun j hj => rfl⟩ dX7_clockNow_17
theorem zi_X7_whyNotPass_X7 : ∀ w ∈ u_ws RX7 TX7 7, w ∈ wsX7_whyNotPass := by decide +kernel
theorem zl_X7_whyNotPass_7 : Cond.fieldLink RX7 7 "RippleCountsModel" "s" "[I" ∈ wsX7_whyNotPass := by decide +kernel
theorem zd_X7_whyNotPass : yX7_whyNotPass.cls ≠ "java/lang/invoke/MethodHandle" ∧ yX7_whyNotPass.cls ≠ "java/lang/invoke/VarHandle" ∧ (parseMethodDescriptor yX7_whyNotPass.desc).map (fun d => d.parameters.length) = some 1 := by decide +kernel
set_option maxHeartbeats 4000000 in
set_option maxRecDepth 100000 in
theorem c_X7_whyNotPass (l : Launch) (D : va_G) (cI cZ cO : ClassId) (hM aS aPa aSl aSv aPd : Nat) (kn ln : Int) (f : Int → Int) (ct : z_Ct) (k : Int) (hrel : z_rel ct 0 f) (hok : z_ok ct) (htt : ct.1.1 ≤ 9999) (hk : -2147483648 ≤ k ∧ k < 2147483648) : z_Mi l yX7_whyNotPass wsX7_whyNotPass 1 22 D (z_T cI cZ cO) [.ref hM, .int (z_I k)] ([(hM, .inr (7, [.ref aS, .ref aPa, .int (z_I kn), .ref aSl, .ref aSv, .ref aPd, .int (z_I ln)])), (aS, z_ai cI 712 f)]) ([(hM, .inr (7, [.ref aS, .ref aPa, .int (z_I kn), .ref aSl, .ref aSv, .ref aPd, .int (z_I ln)])), (aS, z_ai cI 712 f)]) (if 1 ≤ k ∧ k ≤ 99 then (if ct.1.1 + k ≤ 9999 then 0 else -5) else -2) := by
  refine z_Mi_of (cc := cX7_whyNotPass) (nL := 2) (ret := (some .int)) (by decide +kernel) rfl (Nat.le_of_ble_eq_true rfl) ?_
  intro p e s m args below meth c A Q C hQ
  change z_V p l e { frames := 1, cells := 0, slots := 0, locals := 22 } s m args below meth c D A 2 0 0 Q ([(hM, .inr (7, [.ref aS, .ref aPa, .int (z_I kn), .ref aSl, .ref aSv, .ref aPd, .int (z_I ln)])), (aS, z_ai cI 712 f)]) 0 [(0, .ref hM), (1, .int (z_I k))] []
  obtain ⟨hw, hrd, hsg, hho, hck, hlc, hld, hlw, hrl0⟩ := id hok
  obtain ⟨ht0, hst, hsh, hdl, hdu, hdn, hB, htot, hbit, hzero, how⟩ := id hw
  obtain ⟨hrn, hrr, hla⟩ := id hrd
  obtain ⟨hsn, hrk, hfo, hcnt, hinj, hsur⟩ := id hsg
  have hp := z_p2_le (k := ct.1.2.1) (by omega)
  obtain ⟨y0, y1, y2, y3, y4, y5, y6, y7, y8⟩ := hrel.1
  simp only [Int.zero_add] at y1 y2 y3 y4 y5 y6 y7 y8
  refine z_iload_n C 1 dX7_whyNotPass_0 rfl ?_
  refine z_iconst C 1 dX7_whyNotPass_1 ?_
  refine z_bipush C 99 dX7_whyNotPass_2 (by decide) ?_
  refine z_callSi C [] [(hM, .inr (7, [.ref aS, .ref aPa, .int (z_I kn), .ref aSl, .ref aSv, .ref aPd, .int (z_I ln)])), (aS, z_ai cI 712 f)] [.int (z_I k), .int (z_I 1), .int (z_I 99)] [] (c_X7_in l D cI cZ cO k 1 99 (by first | assumption | omega) (by first | assumption | omega) (by first | assumption | omega)) gX7_whyNotPass_X7_in rfl zd_X7_in rfl (by decide) rfl (by decide) rfl rfl rfl (Nat.le_of_ble_eq_true rfl) (by decide) dX7_whyNotPass_4 ?_
  refine z_if_ne C 15 dX7_whyNotPass_7 (by decide) (by omega) (fun hc1 => ?_) (fun hc1 => ?_)
  · skip
    have hz := z_if1.mp hc1
    refine z_aload_n C 0 dX7_whyNotPass_15 rfl ?_
    refine z_get C 0 0 zi_X7_whyNotPass_X7 rfl rfl (by decide) zl_X7_whyNotPass_7 rfl rfl dX7_whyNotPass_16 ?_
    refine z_iconst C 2 dX7_whyNotPass_19 ?_
    refine z_iald C 1 0 rfl rfl (by decide) (by omega) dX7_whyNotPass_20 ?_
    refine z_iload_n C 1 dX7_whyNotPass_21 rfl ?_
    refine z_iadd C dX7_whyNotPass_22 ?_
    refine z_sipush C 9999 dX7_whyNotPass_23 (by decide) ?_
    refine z_icmp_le C 34 dX7_whyNotPass_26 (by decide) (by omega) (by omega) (fun hc2 => ?_) (fun hc2 => ?_)
    · skip
      refine z_iconst C 0 dX7_whyNotPass_34 ?_
      exact z_iret C hQ rfl (by first | (rw [if_neg hz]; done) | (rw [if_pos hz, if_pos (by omega)]; done) | (rw [if_pos hz, if_neg (by omega)]; done)) dX7_whyNotPass_35
    · skip
      refine z_bipush C (-5) dX7_whyNotPass_29 (by decide) ?_
      refine z_goto C 35 dX7_whyNotPass_31 (by decide) ?_
      exact z_iret C hQ rfl (by first | (rw [if_neg hz]; done) | (rw [if_pos hz, if_pos (by omega)]; done) | (rw [if_pos hz, if_neg (by omega)]; done)) dX7_whyNotPass_35
  · skip
    have hz := z_if0.mp (by omega)
    refine z_bipush C (-2) dX7_whyNotPass_10 (by decide) ?_
    refine z_goto C 35 dX7_whyNotPass_12 (by decide) ?_
    exact z_iret C hQ rfl (by first | (rw [if_neg hz]; done) | (rw [if_pos hz, if_pos (by omega)]; done) | (rw [if_pos hz, if_neg (by omega)]; done)) dX7_whyNotPass_35
theorem zd_X7_whyNotDelay : yX7_whyNotDelay.cls ≠ "java/lang/invoke/MethodHandle" ∧ yX7_whyNotDelay.cls ≠ "java/lang/invoke/VarHandle" ∧ (parseMethodDescriptor yX7_whyNotDelay.desc).map (fun d => d.parameters.length) = some 2 := by decide +kernel
set_option maxHeartbeats 4000000 in
set_option maxRecDepth 100000 in
theorem c_X7_whyNotDelay (l : Launch) (D : va_G) (cI cZ cO : ClassId) (hM aS aPa aSl aSv aPd : Nat) (kn ln : Int) (f : Int → Int) (ct : z_Ct) (k v : Int) (hrel : z_rel ct 0 f) (hok : z_ok ct) (htt : ct.1.1 ≤ 9999) (hk : -2147483648 ≤ k ∧ k < 2147483648) (hv : -2147483648 ≤ v ∧ v < 2147483648) : z_Mi l yX7_whyNotDelay wsX7_whyNotDelay 1 22 D (z_T cI cZ cO) [.ref hM, .int (z_I k), .int (z_I v)] ([(hM, .inr (7, [.ref aS, .ref aPa, .int (z_I kn), .ref aSl, .ref aSv, .ref aPd, .int (z_I ln)])), (aS, z_ai cI 712 f)]) ([(hM, .inr (7, [.ref aS, .ref aPa, .int (z_I kn), .ref aSl, .ref aSv, .ref aPd, .int (z_I ln)])), (aS, z_ai cI 712 f)]) (if 0 ≤ k ∧ k < ct.1.2.1 then (if 1 ≤ v ∧ v ≤ 20 then 0 else -2) else -1) := by
  refine z_Mi_of (cc := cX7_whyNotDelay) (nL := 3) (ret := (some .int)) (by decide +kernel) rfl (Nat.le_of_ble_eq_true rfl) ?_
  intro p e s m args below meth c A Q C hQ
  change z_V p l e { frames := 1, cells := 0, slots := 0, locals := 22 } s m args below meth c D A 3 0 0 Q ([(hM, .inr (7, [.ref aS, .ref aPa, .int (z_I kn), .ref aSl, .ref aSv, .ref aPd, .int (z_I ln)])), (aS, z_ai cI 712 f)]) 0 [(0, .ref hM), (1, .int (z_I k)), (2, .int (z_I v))] []
  obtain ⟨hw, hrd, hsg, hho, hck, hlc, hld, hlw, hrl0⟩ := id hok
  obtain ⟨ht0, hst, hsh, hdl, hdu, hdn, hB, htot, hbit, hzero, how⟩ := id hw
  obtain ⟨hrn, hrr, hla⟩ := id hrd
  obtain ⟨hsn, hrk, hfo, hcnt, hinj, hsur⟩ := id hsg
  have hp := z_p2_le (k := ct.1.2.1) (by omega)
  obtain ⟨y0, y1, y2, y3, y4, y5, y6, y7, y8⟩ := hrel.1
  simp only [Int.zero_add] at y1 y2 y3 y4 y5 y6 y7 y8
  refine z_iload_n C 1 dX7_whyNotDelay_0 rfl ?_
  refine z_iconst C 0 dX7_whyNotDelay_1 ?_
  refine z_aload_n C 0 dX7_whyNotDelay_2 rfl ?_
  refine z_iconst C 0 dX7_whyNotDelay_3 ?_
  refine z_callVi C [0, 1] [(hM, .inr (7, [.ref aS, .ref aPa, .int (z_I kn), .ref aSl, .ref aSv, .ref aPd, .int (z_I ln)])), (aS, z_ai cI 712 f)] [.int (z_I 0)] [.int (z_I 0), .int (z_I k)] (c_X7_stages l D cI cZ cO hM aS aPa aSl aSv aPd kn ln f 0 (by first | assumption | omega)) gX7_whyNotDelay_X7_stages rfl zd_X7_stages rfl (by decide) rfl rfl rfl (by decide) rfl rfl rfl (Nat.le_of_ble_eq_true rfl) (by decide) dX7_whyNotDelay_4 ?_
  refine z_iconst C 1 dX7_whyNotDelay_7 ?_
  refine z_isub C dX7_whyNotDelay_8 ?_
  refine z_callSi C [] [(hM, .inr (7, [.ref aS, .ref aPa, .int (z_I kn), .ref aSl, .ref aSv, .ref aPd, .int (z_I ln)])), (aS, z_ai cI 712 f)] [.int (z_I k), .int (z_I 0), .int (z_I ((f 0) - 1))] [] (c_X7_in l D cI cZ cO k 0 ((f 0) - 1) (by first | assumption | omega) (by first | assumption | omega) (by first | assumption | omega)) gX7_whyNotDelay_X7_in rfl zd_X7_in rfl (by decide) rfl (by decide) rfl rfl rfl (Nat.le_of_ble_eq_true rfl) (by decide) dX7_whyNotDelay_9 ?_
  refine z_if_ne C 19 dX7_whyNotDelay_12 (by decide) (by omega) (fun hc1 => ?_) (fun hc1 => ?_)
  · skip
    have hz := z_if1.mp hc1
    refine z_iload_n C 2 dX7_whyNotDelay_19 rfl ?_
    refine z_iconst C 1 dX7_whyNotDelay_20 ?_
    refine z_bipush C 20 dX7_whyNotDelay_21 (by decide) ?_
    refine z_callSi C [] [(hM, .inr (7, [.ref aS, .ref aPa, .int (z_I kn), .ref aSl, .ref aSv, .ref aPd, .int (z_I ln)])), (aS, z_ai cI 712 f)] [.int (z_I v), .int (z_I 1), .int (z_I 20)] [] (c_X7_in l D cI cZ cO v 1 20 (by first | assumption | omega) (by first | assumption | omega) (by first | assumption | omega)) gX7_whyNotDelay_X7_in rfl zd_X7_in rfl (by decide) rfl (by decide) rfl rfl rfl (Nat.le_of_ble_eq_true rfl) (by decide) dX7_whyNotDelay_23 ?_
    refine z_if_eq C 33 dX7_whyNotDelay_26 (by decide) (by omega) (fun hc2 => ?_) (fun hc2 => ?_)
    · skip
      have hz2 := z_if0.mp hc2
      refine z_bipush C (-2) dX7_whyNotDelay_33 (by decide) ?_
      exact z_iret C hQ rfl (by first | (rw [if_neg (by omega)]; done) | (rw [if_pos (by omega), if_pos hz2]; done) | (rw [if_pos (by omega), if_neg hz2]; done)) dX7_whyNotDelay_35
    · skip
      have hz2 := z_if1.mp hc2
      refine z_iconst C 0 dX7_whyNotDelay_29 ?_
      refine z_goto C 35 dX7_whyNotDelay_30 (by decide) ?_
      exact z_iret C hQ rfl (by first | (rw [if_neg (by omega)]; done) | (rw [if_pos (by omega), if_pos hz2]; done) | (rw [if_pos (by omega), if_neg hz2]; done)) dX7_whyNotDelay_35
  · skip
    have hz := z_if0.mp (by omega)
    refine z_iconst C (-1) dX7_whyNotDelay_15 ?_
    refine z_goto C 35 dX7_whyNotDelay_16 (by decide) ?_
    exact z_iret C hQ rfl (by first | (rw [if_neg (by omega)]; done) | (rw [if_pos (by omega), if_pos hz2]; done) | (rw [if_pos (by omega), if_neg hz2]; done)) dX7_whyNotDelay_35
theorem zi_X7_whyNotRead_X7 : ∀ w ∈ u_ws RX7 TX7 7, w ∈ wsX7_whyNotRead := by decide +kernel
theorem zl_X7_whyNotRead_7 : Cond.fieldLink RX7 7 "RippleCountsModel" "s" "[I" ∈ wsX7_whyNotRead := by decide +kernel
theorem zd_X7_whyNotRead : yX7_whyNotRead.cls ≠ "java/lang/invoke/MethodHandle" ∧ yX7_whyNotRead.cls ≠ "java/lang/invoke/VarHandle" ∧ (parseMethodDescriptor yX7_whyNotRead.desc).map (fun d => d.parameters.length) = some 0 := by decide +kernel
set_option maxHeartbeats 4000000 in
set_option maxRecDepth 100000 in
theorem c_X7_whyNotRead (l : Launch) (D : va_G) (cI cZ cO : ClassId) (hM aS aPa aSl aSv aPd : Nat) (kn ln : Int) (f : Int → Int) (ct : z_Ct) (hrel : z_rel ct 0 f) (hok : z_ok ct) (htt : ct.1.1 ≤ 9999) : z_Mi l yX7_whyNotRead wsX7_whyNotRead 0 0 D (z_T cI cZ cO) [.ref hM] ([(hM, .inr (7, [.ref aS, .ref aPa, .int (z_I kn), .ref aSl, .ref aSv, .ref aPd, .int (z_I ln)])), (aS, z_ai cI 712 f)]) ([(hM, .inr (7, [.ref aS, .ref aPa, .int (z_I kn), .ref aSl, .ref aSv, .ref aPd, .int (z_I ln)])), (aS, z_ai cI 712 f)]) (if 99 ≤ ct.2.1.1 + ct.2.2.2.2.2.2.2 then -4 else 0) := by
  refine z_Mi_of (cc := cX7_whyNotRead) (nL := 1) (ret := (some .int)) (by decide +kernel) rfl (Nat.le_of_ble_eq_true rfl) ?_
  intro p e s m args below meth c A Q C hQ
  change z_V p l e { frames := 0, cells := 0, slots := 0, locals := 0 } s m args below meth c D A 1 0 0 Q ([(hM, .inr (7, [.ref aS, .ref aPa, .int (z_I kn), .ref aSl, .ref aSv, .ref aPd, .int (z_I ln)])), (aS, z_ai cI 712 f)]) 0 [(0, .ref hM)] []
  obtain ⟨hw, hrd, hsg, hho, hck, hlc, hld, hlw, hrl0⟩ := id hok
  obtain ⟨ht0, hst, hsh, hdl, hdu, hdn, hB, htot, hbit, hzero, how⟩ := id hw
  obtain ⟨hrn, hrr, hla⟩ := id hrd
  obtain ⟨hsn, hrk, hfo, hcnt, hinj, hsur⟩ := id hsg
  have hp := z_p2_le (k := ct.1.2.1) (by omega)
  obtain ⟨y0, y1, y2, y3, y4, y5, y6, y7, y8⟩ := hrel.1
  simp only [Int.zero_add] at y1 y2 y3 y4 y5 y6 y7 y8
  refine z_aload_n C 0 dX7_whyNotRead_0 rfl ?_
  refine z_get C 0 0 zi_X7_whyNotRead_X7 rfl rfl (by decide) zl_X7_whyNotRead_7 rfl rfl dX7_whyNotRead_1 ?_
  refine z_bipush C 7 dX7_whyNotRead_4 (by decide) ?_
  refine z_iald C 1 0 rfl rfl (by decide) (by omega) dX7_whyNotRead_6 ?_
  refine z_aload_n C 0 dX7_whyNotRead_7 rfl ?_
  refine z_get C 0 0 zi_X7_whyNotRead_X7 rfl rfl (by decide) zl_X7_whyNotRead_7 rfl rfl dX7_whyNotRead_8 ?_
  refine z_bipush C 6 dX7_whyNotRead_11 (by decide) ?_
  refine z_iald C 1 0 rfl rfl (by decide) (by omega) dX7_whyNotRead_13 ?_
  refine z_iadd C dX7_whyNotRead_14 ?_
  refine z_bipush C 99 dX7_whyNotRead_15 (by decide) ?_
  refine z_icmp_lt C 25 dX7_whyNotRead_17 (by decide) (by omega) (by omega) (fun hc1 => ?_) (fun hc1 => ?_)
  · skip
    refine z_iconst C 0 dX7_whyNotRead_25 ?_
    exact z_iret C hQ rfl (by first | (rw [if_pos (by omega)]; done) | (rw [if_neg (by omega)]; done)) dX7_whyNotRead_26
  · skip
    refine z_bipush C (-4) dX7_whyNotRead_20 (by decide) ?_
    refine z_goto C 26 dX7_whyNotRead_22 (by decide) ?_
    exact z_iret C hQ rfl (by first | (rw [if_pos (by omega)]; done) | (rw [if_neg (by omega)]; done)) dX7_whyNotRead_26
theorem zi_X7_whyNotLatch_X7 : ∀ w ∈ u_ws RX7 TX7 7, w ∈ wsX7_whyNotLatch := by decide +kernel
theorem zl_X7_whyNotLatch_7 : Cond.fieldLink RX7 7 "RippleCountsModel" "s" "[I" ∈ wsX7_whyNotLatch := by decide +kernel
theorem zd_X7_whyNotLatch : yX7_whyNotLatch.cls ≠ "java/lang/invoke/MethodHandle" ∧ yX7_whyNotLatch.cls ≠ "java/lang/invoke/VarHandle" ∧ (parseMethodDescriptor yX7_whyNotLatch.desc).map (fun d => d.parameters.length) = some 0 := by decide +kernel
set_option maxHeartbeats 4000000 in
set_option maxRecDepth 100000 in
theorem c_X7_whyNotLatch (l : Launch) (D : va_G) (cI cZ cO : ClassId) (hM aS aPa aSl aSv aPd : Nat) (kn ln : Int) (f : Int → Int) (ct : z_Ct) (hrel : z_rel ct 0 f) (hok : z_ok ct) (htt : ct.1.1 ≤ 9999) : z_Mi l yX7_whyNotLatch wsX7_whyNotLatch 1 20 D (z_T cI cZ cO) [.ref hM] ([(hM, .inr (7, [.ref aS, .ref aPa, .int (z_I kn), .ref aSl, .ref aSv, .ref aPd, .int (z_I ln)])), (aS, z_ai cI 712 f)]) ([(hM, .inr (7, [.ref aS, .ref aPa, .int (z_I kn), .ref aSl, .ref aSv, .ref aPd, .int (z_I ln)])), (aS, z_ai cI 712 f)]) (if ct.2.2.2.2.2.2.2 = 1 then -5 else if 99 ≤ ct.2.1.1 + ct.2.2.2.2.2.2.2 then -4 else 0) := by
  refine z_Mi_of (cc := cX7_whyNotLatch) (nL := 1) (ret := (some .int)) (by decide +kernel) rfl (Nat.le_of_ble_eq_true rfl) ?_
  intro p e s m args below meth c A Q C hQ
  change z_V p l e { frames := 1, cells := 0, slots := 0, locals := 20 } s m args below meth c D A 1 0 0 Q ([(hM, .inr (7, [.ref aS, .ref aPa, .int (z_I kn), .ref aSl, .ref aSv, .ref aPd, .int (z_I ln)])), (aS, z_ai cI 712 f)]) 0 [(0, .ref hM)] []
  obtain ⟨hw, hrd, hsg, hho, hck, hlc, hld, hlw, hrl0⟩ := id hok
  obtain ⟨ht0, hst, hsh, hdl, hdu, hdn, hB, htot, hbit, hzero, how⟩ := id hw
  obtain ⟨hrn, hrr, hla⟩ := id hrd
  obtain ⟨hsn, hrk, hfo, hcnt, hinj, hsur⟩ := id hsg
  have hp := z_p2_le (k := ct.1.2.1) (by omega)
  obtain ⟨y0, y1, y2, y3, y4, y5, y6, y7, y8⟩ := hrel.1
  simp only [Int.zero_add] at y1 y2 y3 y4 y5 y6 y7 y8
  refine z_aload_n C 0 dX7_whyNotLatch_0 rfl ?_
  refine z_get C 0 0 zi_X7_whyNotLatch_X7 rfl rfl (by decide) zl_X7_whyNotLatch_7 rfl rfl dX7_whyNotLatch_1 ?_
  refine z_bipush C 6 dX7_whyNotLatch_4 (by decide) ?_
  refine z_iald C 1 0 rfl rfl (by decide) (by omega) dX7_whyNotLatch_6 ?_
  refine z_iconst C 1 dX7_whyNotLatch_7 ?_
  refine z_icmp_ne C 16 dX7_whyNotLatch_8 (by decide) (by omega) (by omega) (fun hc1 => ?_) (fun hc1 => ?_)
  · skip
    refine z_aload_n C 0 dX7_whyNotLatch_16 rfl ?_
    refine z_callVi C [0, 1] [(hM, .inr (7, [.ref aS, .ref aPa, .int (z_I kn), .ref aSl, .ref aSv, .ref aPd, .int (z_I ln)])), (aS, z_ai cI 712 f)] [] [] (c_X7_whyNotRead l D cI cZ cO hM aS aPa aSl aSv aPd kn ln f ct (by first | assumption | omega) (by first | assumption | omega) (by first | assumption | omega)) gX7_whyNotLatch_X7_whyNotRead rfl zd_X7_whyNotRead rfl (by decide) rfl rfl rfl (by decide) rfl rfl rfl (Nat.le_of_ble_eq_true rfl) (by decide) dX7_whyNotLatch_17 ?_
    exact z_iret C hQ rfl (by first | (rw [if_pos (show ct.2.2.2.2.2.2.2 = 1 by omega)]; done) | (rw [if_neg (show ¬ ct.2.2.2.2.2.2.2 = 1 by omega)]; done)) dX7_whyNotLatch_20
  · skip
    refine z_bipush C (-5) dX7_whyNotLatch_11 (by decide) ?_
    refine z_goto C 20 dX7_whyNotLatch_13 (by decide) ?_
    exact z_iret C hQ rfl (by first | (rw [if_pos (show ct.2.2.2.2.2.2.2 = 1 by omega)]; done) | (rw [if_neg (show ¬ ct.2.2.2.2.2.2.2 = 1 by omega)]; done)) dX7_whyNotLatch_20
theorem zd_X7_passes : yX7_passes.cls ≠ "java/lang/invoke/MethodHandle" ∧ yX7_passes.cls ≠ "java/lang/invoke/VarHandle" ∧ (parseMethodDescriptor yX7_passes.desc).map (fun d => d.parameters.length) = some 2 := by decide +kernel
set_option maxHeartbeats 4000000 in
set_option maxRecDepth 100000 in
theorem c_X7_passes (l : Launch) (D : va_G) (cI cZ cO : ClassId) (hM aS aPa aSl aSv aPd : Nat) (kn ln : Int) (f : Int → Int) (b : Int) (ct : z_Ct) (w : Int) (hb : 0 ≤ b ∧ b ≤ 356) (hrel : z_rel ct b f) (hok : z_ok ct) (hw2 : 0 ≤ w ∧ w ≤ 99) (htt : ct.1.1 < 800000) : z_Ei (Int → Int) l yX7_passes wsX7_passes 4 93 D (z_T cI cZ cO) [.ref hM, .int (z_I b), .int (z_I w)] ([(hM, .inr (7, [.ref aS, .ref aPa, .int (z_I kn), .ref aSl, .ref aSv, .ref aPd, .int (z_I ln)])), (aS, z_ai cI 712 f)]) (fun u => [(hM, .inr (7, [.ref aS, .ref aPa, .int (z_I kn), .ref aSl, .ref aSv, .ref aPd, .int (z_I ln)])), (aS, z_ai cI 712 u)]) (fun ri u => ri = (z_ps ct w.toNat).2 ∧ z_rel (z_ps ct w.toNat).1 b u ∧ z_fr b f u) := by
  refine z_Ei_of (cc := cX7_passes) (nL := 5) (ret := (some .int)) (by decide +kernel) rfl (Nat.le_of_ble_eq_true rfl) ?_
  intro p e s m args below meth c A Q C hQ
  change z_V p l e { frames := 4, cells := 0, slots := 0, locals := 93 } s m args below meth c D A 5 0 0 Q ([(hM, .inr (7, [.ref aS, .ref aPa, .int (z_I kn), .ref aSl, .ref aSv, .ref aPd, .int (z_I ln)])), (aS, z_ai cI 712 f)]) 0 [(0, .ref hM), (1, .int (z_I b)), (2, .int (z_I w))] []
  refine z_iconst C 0 dX7_passes_0 ?_
  refine z_istore_n C [(3, .int (z_I 0)), (0, .ref hM), (1, .int (z_I b)), (2, .int (z_I w))] dX7_passes_1 (by decide) rfl ?_
  refine z_iconst C 0 dX7_passes_2 ?_
  refine z_istore C [(4, .int (z_I 0)), (3, .int (z_I 0)), (0, .ref hM), (1, .int (z_I b)), (2, .int (z_I w))] dX7_passes_3 (by decide) rfl ?_
  have loop5 : ∀ (zn : Nat) (j : Int) (a : Int) (g : Int → Int), 0 ≤ j ∧ j ≤ w → a = (z_ps ct j.toNat).2 → z_rel (z_ps ct j.toNat).1 b g → z_fr b f g → (w - j) < (zn : Int) → z_V p l e { frames := 4, cells := 0, slots := 0, locals := 93 } s m args below meth c D A 5 0 0 Q [(hM, .inr (7, [.ref aS, .ref aPa, .int (z_I kn), .ref aSl, .ref aSv, .ref aPd, .int (z_I ln)])), (aS, z_ai cI 712 g)] 5 [(4, .int (z_I j)), (3, .int (z_I a)), (0, .ref hM), (1, .int (z_I b)), (2, .int (z_I w))] [] := by
    intro zn
    induction zn with
    | zero => intro j a g hj ha hg hfr hm5; exact absurd hm5 (by omega)
    | succ zn5 ih5 =>
      intro j a g hj ha hg hfr hm5
      have hps := z_ps_aux hok j.toNat
      have hpe : z_ps ct (j + 1).toNat = (z_nano (z_ps ct j.toNat).1, (z_ps ct j.toNat).2 + (z_tdR (z_ps ct j.toNat).1).1) := z_it_next (fun (_ : Int) (q : z_Ct × Int) => (z_nano q.1, q.2 + (z_tdR q.1).1)) (ct, 0) hj.1
      refine z_iload C 0 dX7_passes_5 rfl ?_
      refine z_iload_n C 4 dX7_passes_7 rfl ?_
      refine z_icmp_ge C 25 dX7_passes_8 (by decide) (by omega) (by omega) (fun hc1 => ?_) (fun hc1 => ?_)
      · skip
        have hjw : j = w := by omega
        rw [hjw] at ha hg
        refine z_iload_n C 1 dX7_passes_25 rfl ?_
        exact z_irete C hQ g rfl ⟨ha, hg, hfr⟩ dX7_passes_26
      · skip
        refine z_iload_n C 1 dX7_passes_11 rfl ?_
        refine z_aload_n C 2 dX7_passes_12 rfl ?_
        refine z_iload_n C 3 dX7_passes_13 rfl ?_
        refine z_callEi C [0, 1] (fun u1 => [(hM, .inr (7, [.ref aS, .ref aPa, .int (z_I kn), .ref aSl, .ref aSv, .ref aPd, .int (z_I ln)])), (aS, z_ai cI 712 u1)]) [.int (z_I b)] [.int (z_I a)] (c_X7_passesOne l D cI cZ cO hM aS aPa aSl aSv aPd kn ln g b ((z_ps ct j.toNat).1) (by first | assumption | omega) hg hps.1 (by have := hps.2.1; omega)) gX7_passes_X7_passesOne rfl zd_X7_passesOne rfl (by decide) rfl rfl rfl (by decide) (fun _ => rfl) (fun _ => rfl) rfl (Nat.le_of_ble_eq_true rfl) (by decide) dX7_passes_14 (fun u1 ri1 hp1 => ?_)
        refine z_iadd C dX7_passes_17 ?_
        refine z_istore_n C [(3, .int (z_I (a + ri1))), (4, .int (z_I j)), (0, .ref hM), (1, .int (z_I b)), (2, .int (z_I w))] dX7_passes_18 (by decide) rfl ?_
        refine z_iinc C 1 [(4, .int (z_I (j + 1))), (3, .int (z_I (a + ri1))), (0, .ref hM), (1, .int (z_I b)), (2, .int (z_I w))] dX7_passes_19 rfl (by decide) rfl ?_
        refine z_goto C 5 dX7_passes_22 (by decide) ?_
        exact ih5 (j + 1) (a + ri1) u1 (by first | assumption | omega) (by rw [hpe, ha, hp1.1]) (by rw [hpe]; exact hp1.2.1) (fun i hi => by rw [hp1.2.2 i hi]; exact hfr i hi) (by omega)
  exact loop5 (w.toNat + 1) 0 0 f (by first | assumption | omega) rfl hrel (fun j hj => rfl) (by omega)
