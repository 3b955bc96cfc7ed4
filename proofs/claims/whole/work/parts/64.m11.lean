theorem zi_X7_put_X7 : ∀ w ∈ u_ws RX7 TX7 7, w ∈ wsX7_put := by decide +kernel
theorem zl_X7_put_109 : Cond.fieldLink RX7 109 "RippleCountsModel" "length" "I" ∈ wsX7_put := by decide +kernel
theorem zl_X7_put_121 : Cond.constantLong RX7 121 (255) ∈ wsX7_put := by decide +kernel
theorem zl_X7_put_23 : Cond.fieldLink RX7 23 "RippleCountsModel" "pad" "[I" ∈ wsX7_put := by decide +kernel
theorem zd_X7_put : yX7_put.cls ≠ "java/lang/invoke/MethodHandle" ∧ yX7_put.cls ≠ "java/lang/invoke/VarHandle" ∧ (parseMethodDescriptor yX7_put.desc).map (fun d => d.parameters.length) = some 1 := by decide +kernel
set_option maxHeartbeats 4000000 in
set_option maxRecDepth 100000 in
theorem c_X7_put (l : Launch) (D : va_G) (cI cZ cO : ClassId) (hM aS aPa aSl aSv aPd : Nat) (kn ln : Int) (sg pd : Int → Int) (cx : Int) (hln : 0 ≤ ln ∧ ln ≤ 80) (hsg : ∀ i : Int, 0 ≤ i → i < ln → 0 ≤ sg i ∧ sg i < 256) (hpr : z_pr ln sg pd) (hcx : 0 ≤ cx ∧ cx < 18446744073709551616) : z_Ei (Int → Int) l yX7_put wsX7_put 1 22 D (z_T cI cZ cO) [.ref hM, .long (z_L cx)] ([(hM, .inr (7, [.ref aS, .ref aPa, .int (z_I kn), .ref aSl, .ref aSv, .ref aPd, .int (z_I ln)])), (aPd, z_ai cI 80 pd)]) (fun u => [(hM, .inr (7, [.ref aS, .ref aPa, .int (z_I kn), .ref aSl, .ref aSv, .ref aPd, .int (z_I ((z_ap ln sg cx).2.1))])), (aPd, z_ai cI 80 u)]) (fun ri u => ri = (z_ap ln sg cx).1 ∧ z_pr (z_ap ln sg cx).2.1 (z_ap ln sg cx).2.2 u) := by
  refine z_Ei_of (cc := cX7_put) (nL := 8) (ret := (some .int)) (by decide +kernel) rfl (Nat.le_of_ble_eq_true rfl) ?_
  intro p e s m args below meth c A Q C hQ
  change z_V p l e { frames := 1, cells := 0, slots := 0, locals := 22 } s m args below meth c D A 8 0 0 Q ([(hM, .inr (7, [.ref aS, .ref aPa, .int (z_I kn), .ref aSl, .ref aSv, .ref aPd, .int (z_I ln)])), (aPd, z_ai cI 80 pd)]) 0 [(0, .ref hM), (1, .long (z_L cx))] []
  refine z_iconst C 0 dX7_put_0 ?_
  refine z_istore_n C [(3, .int (z_I 0)), (0, .ref hM), (1, .long (z_L cx))] dX7_put_1 (by decide) rfl ?_
  refine z_iconst C 1 dX7_put_2 ?_
  refine z_istore C [(4, .int (z_I 1)), (3, .int (z_I 0)), (0, .ref hM), (1, .long (z_L cx))] dX7_put_3 (by decide) rfl ?_
  refine z_iconst C 0 dX7_put_5 ?_
  refine z_istore C [(5, .int (z_I 0)), (4, .int (z_I 1)), (3, .int (z_I 0)), (0, .ref hM), (1, .long (z_L cx))] dX7_put_6 (by decide) rfl ?_
  refine z_iconst C 0 dX7_put_8 ?_
  refine z_istore C [(6, .int (z_I 0)), (5, .int (z_I 0)), (4, .int (z_I 1)), (3, .int (z_I 0)), (0, .ref hM), (1, .long (z_L cx))] dX7_put_9 (by decide) rfl ?_
  have loop11 : ∀ (zn : Nat) (k : Int) (e9 : Int) (r : Int) (mm : Int), 0 ≤ k ∧ k ≤ 8 → z_pi cx k mm e9 r → (8 - k) < (zn : Int) → z_V p l e { frames := 1, cells := 0, slots := 0, locals := 22 } s m args below meth c D A 8 0 0 Q [(hM, .inr (7, [.ref aS, .ref aPa, .int (z_I kn), .ref aSl, .ref aSv, .ref aPd, .int (z_I ln)])), (aPd, z_ai cI 80 pd)] 11 [(6, .int (z_I k)), (5, .int (z_I e9)), (4, .int (z_I r)), (3, .int (z_I mm)), (0, .ref hM), (1, .long (z_L cx))] [] := by
    intro zn
    induction zn with
    | zero => intro k e9 r mm hk hpi hm11; exact absurd hm11 (by omega)
    | succ zn11 ih11 =>
      intro k e9 r mm hk hpi hm11
      have hpr9 := z_pi_rng hk.1 hpi
      refine z_iload C 0 dX7_put_11 rfl ?_
      refine z_bipush C 8 dX7_put_13 (by decide) ?_
      refine z_icmp_ge C 105 dX7_put_15 (by decide) (by omega) (by omega) (fun hc1 => ?_) (fun hc1 => ?_)
      · skip
        have hk8 : k = 8 := by omega
        rw [hk8] at hpi
        have hfin := z_pi_f hcx hpi
        refine z_iload C 2 dX7_put_105 rfl ?_
        refine z_if_eq C 114 dX7_put_107 (by decide) (by omega) (fun hc2 => ?_) (fun hc2 => ?_)
        · skip
          have hchv := hfin.1 (by omega)
          have hap : (z_ap ln sg cx) = (z_ch cx 0 8, ln, sg) := by unfold z_ap; rw [if_pos (by omega)]
          refine z_bipush C (-2) dX7_put_114 (by decide) ?_
          refine z_ws [(hM, .inr (7, [.ref aS, .ref aPa, .int (z_I kn), .ref aSl, .ref aSv, .ref aPd, .int (z_I ((z_ap ln sg cx).2.1))])), (aPd, z_ai cI 80 pd)] (by rw [hap]) ?_
          exact z_irete C hQ pd rfl ⟨by rw [hap]; omega, by rw [hap]; exact hpr⟩ dX7_put_116
        · skip
          refine z_iload_n C 3 dX7_put_110 rfl ?_
          refine z_if_ne C 117 dX7_put_111 (by decide) (by omega) (fun hc3 => ?_) (fun hc3 => ?_)
          · skip
            have hchv := hfin.2 (by omega)
            refine z_aload_n C 4 dX7_put_117 rfl ?_
            refine z_get C 0 6 zi_X7_put_X7 rfl rfl (by decide) zl_X7_put_109 rfl rfl dX7_put_118 ?_
            refine z_iload_n C 3 dX7_put_121 rfl ?_
            refine z_iadd C dX7_put_122 ?_
            refine z_bipush C 80 dX7_put_123 (by decide) ?_
            refine z_icmp_le C 131 dX7_put_125 (by decide) (by omega) (by omega) (fun hc4 => ?_) (fun hc4 => ?_)
            · skip
              refine z_iload_n C 3 dX7_put_131 rfl ?_
              refine z_iconst C 1 dX7_put_132 ?_
              refine z_isub C dX7_put_133 ?_
              refine z_istore C [(6, .int (z_I (mm - 1))), (5, .int (z_I e9)), (4, .int (z_I r)), (3, .int (z_I mm)), (0, .ref hM), (1, .long (z_L cx))] dX7_put_134 (by decide) rfl ?_
              have loop136 : ∀ (zn : Nat) (k2 : Int) (g : Int → Int), -1 ≤ k2 ∧ k2 ≤ mm - 1 → (∀ i : Int, g i = if ln ≤ i ∧ i < (ln + mm - 1 - k2) then cx / z_p2 (8 * (ln + mm - 1 - i)) % 256 else pd i) → (k2 + 1) < (zn : Int) → z_V p l e { frames := 1, cells := 0, slots := 0, locals := 22 } s m args below meth c D A 8 0 0 Q [(hM, .inr (7, [.ref aS, .ref aPa, .int (z_I kn), .ref aSl, .ref aSv, .ref aPd, .int (z_I (ln + mm - 1 - k2))])), (aPd, z_ai cI 80 g)] 136 [(6, .int (z_I k2)), (3, .int (z_I mm)), (0, .ref hM), (1, .long (z_L cx))] [] := by
                intro zn
                induction zn with
                | zero => intro k2 g hk2 hg hm136; exact absurd hm136 (by omega)
                | succ zn136 ih136 =>
                  intro k2 g hk2 hg hm136
                  refine z_iload C 0 dX7_put_136 rfl ?_
                  refine z_if_lt C 178 dX7_put_138 (by decide) (by omega) (fun hc5 => ?_) (fun hc5 => ?_)
                  · skip
                    have hap : (z_ap ln sg cx) = (ln + mm, ln + mm, z_apf ln mm cx sg) := by unfold z_ap; rw [if_neg (by omega), if_neg (by omega), hchv]
                    have hk9 : k2 = -1 := by omega
                    refine z_aload_n C 2 dX7_put_178 rfl ?_
                    refine z_get C 0 6 zi_X7_put_X7 rfl rfl (by decide) zl_X7_put_109 rfl rfl dX7_put_179 ?_
                    refine z_ws [(hM, .inr (7, [.ref aS, .ref aPa, .int (z_I kn), .ref aSl, .ref aSv, .ref aPd, .int (z_I ((z_ap ln sg cx).2.1))])), (aPd, z_ai cI 80 g)] (by rw [hap, show ln + mm - 1 - k2 = ln + mm by omega]) ?_
                    exact z_irete C hQ g rfl ⟨by rw [hap]; omega, by rw [hap]; intro i i1 i2; have i2' : i < ln + mm := i2; show g i = z_apf ln mm cx sg i; rw [hg i]; unfold z_apf; by_cases h4 : ln ≤ i; (· rw [if_pos (by omega), if_pos (by omega)]); (· rw [if_neg (by omega), if_neg (by omega)]; exact hpr i i1 (by omega))⟩ dX7_put_182
                  · skip
                    refine z_aload_n C 2 dX7_put_141 rfl ?_
                    refine z_get C 0 5 zi_X7_put_X7 rfl rfl (by decide) zl_X7_put_23 rfl rfl dX7_put_142 ?_
                    refine z_aload_n C 2 dX7_put_145 rfl ?_
                    refine z_get C 0 6 zi_X7_put_X7 rfl rfl (by decide) zl_X7_put_109 rfl rfl dX7_put_146 ?_
                    refine z_lload_n C 3 dX7_put_149 rfl ?_
                    refine z_bipush C 8 dX7_put_150 (by decide) ?_
                    refine z_iload C 0 dX7_put_152 rfl ?_
                    refine z_imul C dX7_put_154 ?_
                    refine z_lshr C dX7_put_155 ?_
                    refine z_ldc2 C 255 zl_X7_put_121 rfl dX7_put_156 ?_
                    refine z_land C (cx / z_p2 (8 * k2) % 256) dX7_put_159 (z_lshr8 hcx (by omega)) ?_
                    refine z_l2i C dX7_put_160 ?_
                    refine z_iast C 1 0 ([(hM, .inr (7, [.ref aS, .ref aPa, .int (z_I kn), .ref aSl, .ref aSv, .ref aPd, .int (z_I (ln + mm - 1 - k2))])), (aPd, z_ai cI 80 (z_u g (ln + mm - 1 - k2) (cx / z_p2 (8 * k2) % 256)))]) rfl rfl (by decide) (by omega) rfl dX7_put_161 ?_
                    refine z_aload_n C 2 dX7_put_162 rfl ?_
                    refine z_dup C dX7_put_163 rfl ?_
                    refine z_get C 0 6 zi_X7_put_X7 rfl rfl (by decide) zl_X7_put_109 rfl rfl dX7_put_164 ?_
                    refine z_iconst C 1 dX7_put_167 ?_
                    refine z_iadd C dX7_put_168 ?_
                    refine z_put C 0 6 ([(hM, .inr (7, [.ref aS, .ref aPa, .int (z_I kn), .ref aSl, .ref aSv, .ref aPd, .int (z_I ((ln + mm - 1 - k2) + 1))])), (aPd, z_ai cI 80 (z_u g (ln + mm - 1 - k2) (cx / z_p2 (8 * k2) % 256)))]) zi_X7_put_X7 tyX7_ok nmX7 rfl rfl (by decide) zl_X7_put_109 rfl rfl rfl rfl (Nat.le_of_ble_eq_true rfl) rfl dX7_put_169 ?_
                    refine z_iinc C 0 [(6, .int (z_I (k2 + (-1)))), (3, .int (z_I mm)), (0, .ref hM), (1, .long (z_L cx))] dX7_put_172 rfl (by decide) rfl ?_
                    refine z_goto C 136 dX7_put_175 (by decide) ?_
                    refine z_ws [(hM, .inr (7, [.ref aS, .ref aPa, .int (z_I kn), .ref aSl, .ref aSv, .ref aPd, .int (z_I (ln + mm - 1 - (k2 + (-1))))])), (aPd, z_ai cI 80 (z_u g (ln + mm - 1 - k2) (cx / z_p2 (8 * k2) % 256)))] (by rw [show ln + mm - 1 - k2 + 1 = ln + mm - 1 - (k2 + -1) by omega]) ?_
                    exact ih136 (k2 + (-1)) (z_u g (ln + mm - 1 - k2) (cx / z_p2 (8 * k2) % 256)) (by first | assumption | omega) (fun i => by by_cases h3 : i = (ln + mm - 1 - k2); (· subst h3; rw [z_u_same, if_pos (by omega), show ln + mm - 1 - (ln + mm - 1 - k2) = k2 by omega]); (· rw [z_u_ne h3, hg i]; by_cases h4 : ln ≤ i ∧ i < (ln + mm - 1 - k2); (· rw [if_pos h4, if_pos (by omega)]); (· rw [if_neg h4, if_neg (by omega)]))) (by omega)
              refine z_ws [(hM, .inr (7, [.ref aS, .ref aPa, .int (z_I kn), .ref aSl, .ref aSv, .ref aPd, .int (z_I (ln + mm - 1 - (mm - 1)))])), (aPd, z_ai cI 80 pd)] (by rw [show ln + mm - 1 - (mm - 1) = ln by omega]) ?_
              refine z_lsub [(6, .int (z_I (mm - 1))), (3, .int (z_I mm)), (0, .ref hM), (1, .long (z_L cx))] [0, 3, 4, 5] rfl ?_
              exact loop136 10 (mm - 1) pd (by first | assumption | omega) (fun i => by rw [if_neg (by omega)]) (by omega)
            · skip
              have hap : (z_ap ln sg cx) = (-4, ln, sg) := by unfold z_ap; rw [if_neg (by omega), if_pos (by omega)]
              refine z_bipush C (-4) dX7_put_128 (by decide) ?_
              refine z_ws [(hM, .inr (7, [.ref aS, .ref aPa, .int (z_I kn), .ref aSl, .ref aSv, .ref aPd, .int (z_I ((z_ap ln sg cx).2.1))])), (aPd, z_ai cI 80 pd)] (by rw [hap]) ?_
              exact z_irete C hQ pd rfl ⟨by rw [hap], by rw [hap]; exact hpr⟩ dX7_put_130
          · skip
            have hchv := hfin.1 (by omega)
            have hap : (z_ap ln sg cx) = (z_ch cx 0 8, ln, sg) := by unfold z_ap; rw [if_pos (by omega)]
            refine z_bipush C (-2) dX7_put_114 (by decide) ?_
            refine z_ws [(hM, .inr (7, [.ref aS, .ref aPa, .int (z_I kn), .ref aSl, .ref aSv, .ref aPd, .int (z_I ((z_ap ln sg cx).2.1))])), (aPd, z_ai cI 80 pd)] (by rw [hap]) ?_
            exact z_irete C hQ pd rfl ⟨by rw [hap]; omega, by rw [hap]; exact hpr⟩ dX7_put_116
      · skip
        refine z_lload_n C 5 dX7_put_18 rfl ?_
        refine z_bipush C 8 dX7_put_19 (by decide) ?_
        refine z_iload C 0 dX7_put_21 rfl ?_
        refine z_imul C dX7_put_23 ?_
        refine z_lshr C dX7_put_24 ?_
        refine z_ldc2 C 255 zl_X7_put_121 rfl dX7_put_25 ?_
        refine z_land C (cx / z_p2 (8 * k) % 256) dX7_put_28 (z_lshr8 hcx (by omega)) ?_
        refine z_l2i C dX7_put_29 ?_
        generalize hcd : cx / z_p2 (8 * k) % 256 = cd
        refine z_istore C [(7, .int (z_I cd)), (6, .int (z_I k)), (5, .int (z_I e9)), (4, .int (z_I r)), (3, .int (z_I mm)), (0, .ref hM), (1, .long (z_L cx))] dX7_put_30 (by decide) rfl ?_
        have hcdr : 0 ≤ cd ∧ cd < 256 := by omega
        refine z_iload C 2 dX7_put_32 rfl ?_
        refine z_if_ne C 42 dX7_put_34 (by decide) (by omega) (fun hc6 => ?_) (fun hc6 => ?_)
        · skip
          refine z_iconst C 1 dX7_put_42 ?_
          refine z_goto C 47 dX7_put_43 (by decide) ?_
          refine z_istore C [(5, .int (z_I 1)), (7, .int (z_I cd)), (6, .int (z_I k)), (4, .int (z_I r)), (3, .int (z_I mm)), (0, .ref hM), (1, .long (z_L cx))] dX7_put_47 (by decide) rfl ?_
          refine z_iload C 3 dX7_put_49 rfl ?_
          refine z_if_eq C 83 dX7_put_51 (by decide) (by omega) (fun hc7 => ?_) (fun hc7 => ?_)
          · skip
            refine z_iconst C 0 dX7_put_83 ?_
            refine z_istore C [(4, .int (z_I 0)), (5, .int (z_I 1)), (7, .int (z_I cd)), (6, .int (z_I k)), (3, .int (z_I mm)), (0, .ref hM), (1, .long (z_L cx))] dX7_put_84 (by decide) rfl ?_
            refine z_iload_n C 4 dX7_put_86 rfl ?_
            refine z_iload C 1 dX7_put_87 rfl ?_
            refine z_if_eq C 96 dX7_put_89 (by decide) (by omega) (fun hc8 => ?_) (fun hc8 => ?_)
            · first
              | (exfalso; omega)
              | skip
                refine z_iconst C 1 dX7_put_96 ?_
                refine z_iadd C dX7_put_97 ?_
                refine z_istore_n C [(3, .int (z_I (mm + 1))), (4, .int (z_I 0)), (5, .int (z_I 1)), (7, .int (z_I cd)), (6, .int (z_I k)), (0, .ref hM), (1, .long (z_L cx))] dX7_put_98 (by decide) rfl ?_
                refine z_iinc C 4 [(6, .int (z_I (k + 1))), (3, .int (z_I (mm + 1))), (4, .int (z_I 0)), (5, .int (z_I 1)), (7, .int (z_I cd)), (0, .ref hM), (1, .long (z_L cx))] dX7_put_99 rfl (by decide) rfl ?_
                refine z_goto C 11 dX7_put_102 (by decide) ?_
                refine z_lsub [(6, .int (z_I (k + 1))), (5, .int (z_I 1)), (4, .int (z_I 0)), (3, .int (z_I (mm + 1))), (0, .ref hM), (1, .long (z_L cx))] [0, 3, 2, 1, 5, 6] rfl ?_
                exact ih11 (k + 1) 1 0 (mm + 1) (by first | assumption | omega) (z_pi_s hcx.1 (by omega) hcd hpi (by split <;> omega) (by split <;> omega) (by split <;> omega)) (by omega)
            · first
              | (exfalso; omega)
              | skip
                refine z_iconst C 0 dX7_put_92 ?_
                refine z_goto C 97 dX7_put_93 (by decide) ?_
                refine z_iadd C dX7_put_97 ?_
                refine z_istore_n C [(3, .int (z_I (mm + 0))), (4, .int (z_I 0)), (5, .int (z_I 1)), (7, .int (z_I cd)), (6, .int (z_I k)), (0, .ref hM), (1, .long (z_L cx))] dX7_put_98 (by decide) rfl ?_
                refine z_iinc C 4 [(6, .int (z_I (k + 1))), (3, .int (z_I (mm + 0))), (4, .int (z_I 0)), (5, .int (z_I 1)), (7, .int (z_I cd)), (0, .ref hM), (1, .long (z_L cx))] dX7_put_99 rfl (by decide) rfl ?_
                refine z_goto C 11 dX7_put_102 (by decide) ?_
                refine z_lsub [(6, .int (z_I (k + 1))), (5, .int (z_I 1)), (4, .int (z_I 0)), (3, .int (z_I (mm + 0))), (0, .ref hM), (1, .long (z_L cx))] [0, 3, 2, 1, 5, 6] rfl ?_
                exact ih11 (k + 1) 1 0 (mm + 0) (by first | assumption | omega) (z_pi_s hcx.1 (by omega) hcd hpi (by split <;> omega) (by split <;> omega) (by split <;> omega)) (by omega)
          · skip
            refine z_iload C 0 dX7_put_54 rfl ?_
            refine z_if_eq C 67 dX7_put_56 (by decide) (by omega) (fun hc9 => ?_) (fun hc9 => ?_)
            · first
              | (exfalso; omega)
              | skip
                refine z_iload C 1 dX7_put_67 rfl ?_
                refine z_bipush C 33 dX7_put_69 (by decide) ?_
                refine z_bipush C 126 dX7_put_71 (by decide) ?_
                refine z_callSi C [] [(hM, .inr (7, [.ref aS, .ref aPa, .int (z_I kn), .ref aSl, .ref aSv, .ref aPd, .int (z_I ln)])), (aPd, z_ai cI 80 pd)] [.int (z_I cd), .int (z_I 33), .int (z_I 126)] [] (c_X7_in l D cI cZ cO cd 33 126 (by first | assumption | omega) (by first | assumption | omega) (by first | assumption | omega)) gX7_put_X7_in rfl zd_X7_in rfl (by decide) rfl (by decide) rfl rfl rfl (Nat.le_of_ble_eq_true rfl) (by decide) dX7_put_73 ?_
                refine z_if_eq C 83 dX7_put_76 (by decide) (by omega) (fun hc10 => ?_) (fun hc10 => ?_)
                · skip
                  have hz := z_if0.mp hc10
                  refine z_iconst C 0 dX7_put_83 ?_
                  refine z_istore C [(4, .int (z_I 0)), (5, .int (z_I 1)), (7, .int (z_I cd)), (6, .int (z_I k)), (3, .int (z_I mm)), (0, .ref hM), (1, .long (z_L cx))] dX7_put_84 (by decide) rfl ?_
                  refine z_iload_n C 4 dX7_put_86 rfl ?_
                  refine z_iload C 1 dX7_put_87 rfl ?_
                  refine z_if_eq C 96 dX7_put_89 (by decide) (by omega) (fun hc11 => ?_) (fun hc11 => ?_)
                  · first
                    | (exfalso; omega)
                    | skip
                      refine z_iconst C 1 dX7_put_96 ?_
                      refine z_iadd C dX7_put_97 ?_
                      refine z_istore_n C [(3, .int (z_I (mm + 1))), (4, .int (z_I 0)), (5, .int (z_I 1)), (7, .int (z_I cd)), (6, .int (z_I k)), (0, .ref hM), (1, .long (z_L cx))] dX7_put_98 (by decide) rfl ?_
                      refine z_iinc C 4 [(6, .int (z_I (k + 1))), (3, .int (z_I (mm + 1))), (4, .int (z_I 0)), (5, .int (z_I 1)), (7, .int (z_I cd)), (0, .ref hM), (1, .long (z_L cx))] dX7_put_99 rfl (by decide) rfl ?_
                      refine z_goto C 11 dX7_put_102 (by decide) ?_
                      refine z_lsub [(6, .int (z_I (k + 1))), (5, .int (z_I 1)), (4, .int (z_I 0)), (3, .int (z_I (mm + 1))), (0, .ref hM), (1, .long (z_L cx))] [0, 3, 2, 1, 5, 6] rfl ?_
                      exact ih11 (k + 1) 1 0 (mm + 1) (by first | assumption | omega) (z_pi_s hcx.1 (by omega) hcd hpi (by split <;> omega) (by split <;> omega) (by split <;> omega)) (by omega)
                  · first
                    | (exfalso; omega)
                    | skip
                      refine z_iconst C 0 dX7_put_92 ?_
                      refine z_goto C 97 dX7_put_93 (by decide) ?_
                      refine z_iadd C dX7_put_97 ?_
                      refine z_istore_n C [(3, .int (z_I (mm + 0))), (4, .int (z_I 0)), (5, .int (z_I 1)), (7, .int (z_I cd)), (6, .int (z_I k)), (0, .ref hM), (1, .long (z_L cx))] dX7_put_98 (by decide) rfl ?_
                      refine z_iinc C 4 [(6, .int (z_I (k + 1))), (3, .int (z_I (mm + 0))), (4, .int (z_I 0)), (5, .int (z_I 1)), (7, .int (z_I cd)), (0, .ref hM), (1, .long (z_L cx))] dX7_put_99 rfl (by decide) rfl ?_
                      refine z_goto C 11 dX7_put_102 (by decide) ?_
                      refine z_lsub [(6, .int (z_I (k + 1))), (5, .int (z_I 1)), (4, .int (z_I 0)), (3, .int (z_I (mm + 0))), (0, .ref hM), (1, .long (z_L cx))] [0, 3, 2, 1, 5, 6] rfl ?_
                      exact ih11 (k + 1) 1 0 (mm + 0) (by first | assumption | omega) (z_pi_s hcx.1 (by omega) hcd hpi (by split <;> omega) (by split <;> omega) (by split <;> omega)) (by omega)
                · skip
                  have hz := z_if1.mp (by omega)
                  refine z_iconst C 1 dX7_put_79 ?_
                  refine z_goto C 84 dX7_put_80 (by decide) ?_
                  refine z_istore C [(4, .int (z_I 1)), (5, .int (z_I 1)), (7, .int (z_I cd)), (6, .int (z_I k)), (3, .int (z_I mm)), (0, .ref hM), (1, .long (z_L cx))] dX7_put_84 (by decide) rfl ?_
                  refine z_iload_n C 4 dX7_put_86 rfl ?_
                  refine z_iload C 1 dX7_put_87 rfl ?_
                  refine z_if_eq C 96 dX7_put_89 (by decide) (by omega) (fun hc12 => ?_) (fun hc12 => ?_)
                  · first
                    | (exfalso; omega)
                    | skip
                      refine z_iconst C 1 dX7_put_96 ?_
                      refine z_iadd C dX7_put_97 ?_
                      refine z_istore_n C [(3, .int (z_I (mm + 1))), (4, .int (z_I 1)), (5, .int (z_I 1)), (7, .int (z_I cd)), (6, .int (z_I k)), (0, .ref hM), (1, .long (z_L cx))] dX7_put_98 (by decide) rfl ?_
                      refine z_iinc C 4 [(6, .int (z_I (k + 1))), (3, .int (z_I (mm + 1))), (4, .int (z_I 1)), (5, .int (z_I 1)), (7, .int (z_I cd)), (0, .ref hM), (1, .long (z_L cx))] dX7_put_99 rfl (by decide) rfl ?_
                      refine z_goto C 11 dX7_put_102 (by decide) ?_
                      refine z_lsub [(6, .int (z_I (k + 1))), (5, .int (z_I 1)), (4, .int (z_I 1)), (3, .int (z_I (mm + 1))), (0, .ref hM), (1, .long (z_L cx))] [0, 3, 2, 1, 5, 6] rfl ?_
                      exact ih11 (k + 1) 1 1 (mm + 1) (by first | assumption | omega) (z_pi_s hcx.1 (by omega) hcd hpi (by split <;> omega) (by split <;> omega) (by split <;> omega)) (by omega)
                  · first
                    | (exfalso; omega)
                    | skip
                      refine z_iconst C 0 dX7_put_92 ?_
                      refine z_goto C 97 dX7_put_93 (by decide) ?_
                      refine z_iadd C dX7_put_97 ?_
                      refine z_istore_n C [(3, .int (z_I (mm + 0))), (4, .int (z_I 1)), (5, .int (z_I 1)), (7, .int (z_I cd)), (6, .int (z_I k)), (0, .ref hM), (1, .long (z_L cx))] dX7_put_98 (by decide) rfl ?_
                      refine z_iinc C 4 [(6, .int (z_I (k + 1))), (3, .int (z_I (mm + 0))), (4, .int (z_I 1)), (5, .int (z_I 1)), (7, .int (z_I cd)), (0, .ref hM), (1, .long (z_L cx))] dX7_put_99 rfl (by decide) rfl ?_
                      refine z_goto C 11 dX7_put_102 (by decide) ?_
                      refine z_lsub [(6, .int (z_I (k + 1))), (5, .int (z_I 1)), (4, .int (z_I 1)), (3, .int (z_I (mm + 0))), (0, .ref hM), (1, .long (z_L cx))] [0, 3, 2, 1, 5, 6] rfl ?_
                      exact ih11 (k + 1) 1 1 (mm + 0) (by first | assumption | omega) (z_pi_s hcx.1 (by omega) hcd hpi (by split <;> omega) (by split <;> omega) (by split <;> omega)) (by omega)
            · first
              | (exfalso; omega)
              | skip
                refine z_iload C 1 dX7_put_59 rfl ?_
                refine z_if_ne C 83 dX7_put_61 (by decide) (by omega) (fun hc13 => ?_) (fun hc13 => ?_)
                · skip
                  refine z_iconst C 0 dX7_put_83 ?_
                  refine z_istore C [(4, .int (z_I 0)), (5, .int (z_I 1)), (7, .int (z_I cd)), (6, .int (z_I k)), (3, .int (z_I mm)), (0, .ref hM), (1, .long (z_L cx))] dX7_put_84 (by decide) rfl ?_
                  refine z_iload_n C 4 dX7_put_86 rfl ?_
                  refine z_iload C 1 dX7_put_87 rfl ?_
                  refine z_if_eq C 96 dX7_put_89 (by decide) (by omega) (fun hc14 => ?_) (fun hc14 => ?_)
                  · first
                    | (exfalso; omega)
                    | skip
                      refine z_iconst C 1 dX7_put_96 ?_
                      refine z_iadd C dX7_put_97 ?_
                      refine z_istore_n C [(3, .int (z_I (mm + 1))), (4, .int (z_I 0)), (5, .int (z_I 1)), (7, .int (z_I cd)), (6, .int (z_I k)), (0, .ref hM), (1, .long (z_L cx))] dX7_put_98 (by decide) rfl ?_
                      refine z_iinc C 4 [(6, .int (z_I (k + 1))), (3, .int (z_I (mm + 1))), (4, .int (z_I 0)), (5, .int (z_I 1)), (7, .int (z_I cd)), (0, .ref hM), (1, .long (z_L cx))] dX7_put_99 rfl (by decide) rfl ?_
                      refine z_goto C 11 dX7_put_102 (by decide) ?_
                      refine z_lsub [(6, .int (z_I (k + 1))), (5, .int (z_I 1)), (4, .int (z_I 0)), (3, .int (z_I (mm + 1))), (0, .ref hM), (1, .long (z_L cx))] [0, 3, 2, 1, 5, 6] rfl ?_
                      exact ih11 (k + 1) 1 0 (mm + 1) (by first | assumption | omega) (z_pi_s hcx.1 (by omega) hcd hpi (by split <;> omega) (by split <;> omega) (by split <;> omega)) (by omega)
                  · first
                    | (exfalso; omega)
                    | skip
                      refine z_iconst C 0 dX7_put_92 ?_
                      refine z_goto C 97 dX7_put_93 (by decide) ?_
                      refine z_iadd C dX7_put_97 ?_
                      refine z_istore_n C [(3, .int (z_I (mm + 0))), (4, .int (z_I 0)), (5, .int (z_I 1)), (7, .int (z_I cd)), (6, .int (z_I k)), (0, .ref hM), (1, .long (z_L cx))] dX7_put_98 (by decide) rfl ?_
                      refine z_iinc C 4 [(6, .int (z_I (k + 1))), (3, .int (z_I (mm + 0))), (4, .int (z_I 0)), (5, .int (z_I 1)), (7, .int (z_I cd)), (0, .ref hM), (1, .long (z_L cx))] dX7_put_99 rfl (by decide) rfl ?_
                      refine z_goto C 11 dX7_put_102 (by decide) ?_
                      refine z_lsub [(6, .int (z_I (k + 1))), (5, .int (z_I 1)), (4, .int (z_I 0)), (3, .int (z_I (mm + 0))), (0, .ref hM), (1, .long (z_L cx))] [0, 3, 2, 1, 5, 6] rfl ?_
                      exact ih11 (k + 1) 1 0 (mm + 0) (by first | assumption | omega) (z_pi_s hcx.1 (by omega) hcd hpi (by split <;> omega) (by split <;> omega) (by split <;> omega)) (by omega)
                · skip
                  refine z_goto C 79 dX7_put_64 (by decide) ?_
                  refine z_iconst C 1 dX7_put_79 ?_
                  refine z_goto C 84 dX7_put_80 (by decide) ?_
                  refine z_istore C [(4, .int (z_I 1)), (5, .int (z_I 1)), (7, .int (z_I cd)), (6, .int (z_I k)), (3, .int (z_I mm)), (0, .ref hM), (1, .long (z_L cx))] dX7_put_84 (by decide) rfl ?_
                  refine z_iload_n C 4 dX7_put_86 rfl ?_
                  refine z_iload C 1 dX7_put_87 rfl ?_
                  refine z_if_eq C 96 dX7_put_89 (by decide) (by omega) (fun hc15 => ?_) (fun hc15 => ?_)
                  · first
                    | (exfalso; omega)
                    | skip
                      refine z_iconst C 1 dX7_put_96 ?_
                      refine z_iadd C dX7_put_97 ?_
                      refine z_istore_n C [(3, .int (z_I (mm + 1))), (4, .int (z_I 1)), (5, .int (z_I 1)), (7, .int (z_I cd)), (6, .int (z_I k)), (0, .ref hM), (1, .long (z_L cx))] dX7_put_98 (by decide) rfl ?_
                      refine z_iinc C 4 [(6, .int (z_I (k + 1))), (3, .int (z_I (mm + 1))), (4, .int (z_I 1)), (5, .int (z_I 1)), (7, .int (z_I cd)), (0, .ref hM), (1, .long (z_L cx))] dX7_put_99 rfl (by decide) rfl ?_
                      refine z_goto C 11 dX7_put_102 (by decide) ?_
                      refine z_lsub [(6, .int (z_I (k + 1))), (5, .int (z_I 1)), (4, .int (z_I 1)), (3, .int (z_I (mm + 1))), (0, .ref hM), (1, .long (z_L cx))] [0, 3, 2, 1, 5, 6] rfl ?_
                      exact ih11 (k + 1) 1 1 (mm + 1) (by first | assumption | omega) (z_pi_s hcx.1 (by omega) hcd hpi (by split <;> omega) (by split <;> omega) (by split <;> omega)) (by omega)
                  · first
                    | (exfalso; omega)
                    | skip
                      refine z_iconst C 0 dX7_put_92 ?_
                      refine z_goto C 97 dX7_put_93 (by decide) ?_
                      refine z_iadd C dX7_put_97 ?_
                      refine z_istore_n C [(3, .int (z_I (mm + 0))), (4, .int (z_I 1)), (5, .int (z_I 1)), (7, .int (z_I cd)), (6, .int (z_I k)), (0, .ref hM), (1, .long (z_L cx))] dX7_put_98 (by decide) rfl ?_
                      refine z_iinc C 4 [(6, .int (z_I (k + 1))), (3, .int (z_I (mm + 0))), (4, .int (z_I 1)), (5, .int (z_I 1)), (7, .int (z_I cd)), (0, .ref hM), (1, .long (z_L cx))] dX7_put_99 rfl (by decide) rfl ?_
                      refine z_goto C 11 dX7_put_102 (by decide) ?_
                      refine z_lsub [(6, .int (z_I (k + 1))), (5, .int (z_I 1)), (4, .int (z_I 1)), (3, .int (z_I (mm + 0))), (0, .ref hM), (1, .long (z_L cx))] [0, 3, 2, 1, 5, 6] rfl ?_
                      exact ih11 (k + 1) 1 1 (mm + 0) (by first | assumption | omega) (z_pi_s hcx.1 (by omega) hcd hpi (by split <;> omega) (by split <;> omega) (by split <;> omega)) (by omega)
        · skip
          refine z_iload C 0 dX7_put_37 rfl ?_
          refine z_if_ne C 46 dX7_put_39 (by decide) (by omega) (fun hc16 => ?_) (fun hc16 => ?_)
          · skip
            refine z_iconst C 0 dX7_put_46 ?_
            refine z_istore C [(5, .int (z_I 0)), (7, .int (z_I cd)), (6, .int (z_I k)), (4, .int (z_I r)), (3, .int (z_I mm)), (0, .ref hM), (1, .long (z_L cx))] dX7_put_47 (by decide) rfl ?_
            refine z_iload C 3 dX7_put_49 rfl ?_
            refine z_if_eq C 83 dX7_put_51 (by decide) (by omega) (fun hc17 => ?_) (fun hc17 => ?_)
            · skip
              refine z_iconst C 0 dX7_put_83 ?_
              refine z_istore C [(4, .int (z_I 0)), (5, .int (z_I 0)), (7, .int (z_I cd)), (6, .int (z_I k)), (3, .int (z_I mm)), (0, .ref hM), (1, .long (z_L cx))] dX7_put_84 (by decide) rfl ?_
              refine z_iload_n C 4 dX7_put_86 rfl ?_
              refine z_iload C 1 dX7_put_87 rfl ?_
              refine z_if_eq C 96 dX7_put_89 (by decide) (by omega) (fun hc18 => ?_) (fun hc18 => ?_)
              · first
                | (exfalso; omega)
                | skip
                  refine z_iconst C 1 dX7_put_96 ?_
                  refine z_iadd C dX7_put_97 ?_
                  refine z_istore_n C [(3, .int (z_I (mm + 1))), (4, .int (z_I 0)), (5, .int (z_I 0)), (7, .int (z_I cd)), (6, .int (z_I k)), (0, .ref hM), (1, .long (z_L cx))] dX7_put_98 (by decide) rfl ?_
                  refine z_iinc C 4 [(6, .int (z_I (k + 1))), (3, .int (z_I (mm + 1))), (4, .int (z_I 0)), (5, .int (z_I 0)), (7, .int (z_I cd)), (0, .ref hM), (1, .long (z_L cx))] dX7_put_99 rfl (by decide) rfl ?_
                  refine z_goto C 11 dX7_put_102 (by decide) ?_
                  refine z_lsub [(6, .int (z_I (k + 1))), (5, .int (z_I 0)), (4, .int (z_I 0)), (3, .int (z_I (mm + 1))), (0, .ref hM), (1, .long (z_L cx))] [0, 3, 2, 1, 5, 6] rfl ?_
                  exact ih11 (k + 1) 0 0 (mm + 1) (by first | assumption | omega) (z_pi_s hcx.1 (by omega) hcd hpi (by split <;> omega) (by split <;> omega) (by split <;> omega)) (by omega)
              · first
                | (exfalso; omega)
                | skip
                  refine z_iconst C 0 dX7_put_92 ?_
                  refine z_goto C 97 dX7_put_93 (by decide) ?_
                  refine z_iadd C dX7_put_97 ?_
                  refine z_istore_n C [(3, .int (z_I (mm + 0))), (4, .int (z_I 0)), (5, .int (z_I 0)), (7, .int (z_I cd)), (6, .int (z_I k)), (0, .ref hM), (1, .long (z_L cx))] dX7_put_98 (by decide) rfl ?_
                  refine z_iinc C 4 [(6, .int (z_I (k + 1))), (3, .int (z_I (mm + 0))), (4, .int (z_I 0)), (5, .int (z_I 0)), (7, .int (z_I cd)), (0, .ref hM), (1, .long (z_L cx))] dX7_put_99 rfl (by decide) rfl ?_
                  refine z_goto C 11 dX7_put_102 (by decide) ?_
                  refine z_lsub [(6, .int (z_I (k + 1))), (5, .int (z_I 0)), (4, .int (z_I 0)), (3, .int (z_I (mm + 0))), (0, .ref hM), (1, .long (z_L cx))] [0, 3, 2, 1, 5, 6] rfl ?_
                  exact ih11 (k + 1) 0 0 (mm + 0) (by first | assumption | omega) (z_pi_s hcx.1 (by omega) hcd hpi (by split <;> omega) (by split <;> omega) (by split <;> omega)) (by omega)
            · skip
              refine z_iload C 0 dX7_put_54 rfl ?_
              refine z_if_eq C 67 dX7_put_56 (by decide) (by omega) (fun hc19 => ?_) (fun hc19 => ?_)
              · first
                | (exfalso; omega)
                | skip
                  refine z_iload C 1 dX7_put_67 rfl ?_
                  refine z_bipush C 33 dX7_put_69 (by decide) ?_
                  refine z_bipush C 126 dX7_put_71 (by decide) ?_
                  refine z_callSi C [] [(hM, .inr (7, [.ref aS, .ref aPa, .int (z_I kn), .ref aSl, .ref aSv, .ref aPd, .int (z_I ln)])), (aPd, z_ai cI 80 pd)] [.int (z_I cd), .int (z_I 33), .int (z_I 126)] [] (c_X7_in l D cI cZ cO cd 33 126 (by first | assumption | omega) (by first | assumption | omega) (by first | assumption | omega)) gX7_put_X7_in rfl zd_X7_in rfl (by decide) rfl (by decide) rfl rfl rfl (Nat.le_of_ble_eq_true rfl) (by decide) dX7_put_73 ?_
                  refine z_if_eq C 83 dX7_put_76 (by decide) (by omega) (fun hc20 => ?_) (fun hc20 => ?_)
                  · skip
                    have hz := z_if0.mp hc20
                    refine z_iconst C 0 dX7_put_83 ?_
                    refine z_istore C [(4, .int (z_I 0)), (5, .int (z_I 0)), (7, .int (z_I cd)), (6, .int (z_I k)), (3, .int (z_I mm)), (0, .ref hM), (1, .long (z_L cx))] dX7_put_84 (by decide) rfl ?_
                    refine z_iload_n C 4 dX7_put_86 rfl ?_
                    refine z_iload C 1 dX7_put_87 rfl ?_
                    refine z_if_eq C 96 dX7_put_89 (by decide) (by omega) (fun hc21 => ?_) (fun hc21 => ?_)
                    · first
                      | (exfalso; omega)
                      | skip
                        refine z_iconst C 1 dX7_put_96 ?_
                        refine z_iadd C dX7_put_97 ?_
                        refine z_istore_n C [(3, .int (z_I (mm + 1))), (4, .int (z_I 0)), (5, .int (z_I 0)), (7, .int (z_I cd)), (6, .int (z_I k)), (0, .ref hM), (1, .long (z_L cx))] dX7_put_98 (by decide) rfl ?_
                        refine z_iinc C 4 [(6, .int (z_I (k + 1))), (3, .int (z_I (mm + 1))), (4, .int (z_I 0)), (5, .int (z_I 0)), (7, .int (z_I cd)), (0, .ref hM), (1, .long (z_L cx))] dX7_put_99 rfl (by decide) rfl ?_
                        refine z_goto C 11 dX7_put_102 (by decide) ?_
                        refine z_lsub [(6, .int (z_I (k + 1))), (5, .int (z_I 0)), (4, .int (z_I 0)), (3, .int (z_I (mm + 1))), (0, .ref hM), (1, .long (z_L cx))] [0, 3, 2, 1, 5, 6] rfl ?_
                        exact ih11 (k + 1) 0 0 (mm + 1) (by first | assumption | omega) (z_pi_s hcx.1 (by omega) hcd hpi (by split <;> omega) (by split <;> omega) (by split <;> omega)) (by omega)
                    · first
                      | (exfalso; omega)
                      | skip
                        refine z_iconst C 0 dX7_put_92 ?_
                        refine z_goto C 97 dX7_put_93 (by decide) ?_
                        refine z_iadd C dX7_put_97 ?_
                        refine z_istore_n C [(3, .int (z_I (mm + 0))), (4, .int (z_I 0)), (5, .int (z_I 0)), (7, .int (z_I cd)), (6, .int (z_I k)), (0, .ref hM), (1, .long (z_L cx))] dX7_put_98 (by decide) rfl ?_
                        refine z_iinc C 4 [(6, .int (z_I (k + 1))), (3, .int (z_I (mm + 0))), (4, .int (z_I 0)), (5, .int (z_I 0)), (7, .int (z_I cd)), (0, .ref hM), (1, .long (z_L cx))] dX7_put_99 rfl (by decide) rfl ?_
                        refine z_goto C 11 dX7_put_102 (by decide) ?_
                        refine z_lsub [(6, .int (z_I (k + 1))), (5, .int (z_I 0)), (4, .int (z_I 0)), (3, .int (z_I (mm + 0))), (0, .ref hM), (1, .long (z_L cx))] [0, 3, 2, 1, 5, 6] rfl ?_
                        exact ih11 (k + 1) 0 0 (mm + 0) (by first | assumption | omega) (z_pi_s hcx.1 (by omega) hcd hpi (by split <;> omega) (by split <;> omega) (by split <;> omega)) (by omega)
                  · skip
                    have hz := z_if1.mp (by omega)
                    refine z_iconst C 1 dX7_put_79 ?_
                    refine z_goto C 84 dX7_put_80 (by decide) ?_
                    refine z_istore C [(4, .int (z_I 1)), (5, .int (z_I 0)), (7, .int (z_I cd)), (6, .int (z_I k)), (3, .int (z_I mm)), (0, .ref hM), (1, .long (z_L cx))] dX7_put_84 (by decide) rfl ?_
                    refine z_iload_n C 4 dX7_put_86 rfl ?_
                    refine z_iload C 1 dX7_put_87 rfl ?_
                    refine z_if_eq C 96 dX7_put_89 (by decide) (by omega) (fun hc22 => ?_) (fun hc22 => ?_)
                    · first
                      | (exfalso; omega)
                      | skip
                        refine z_iconst C 1 dX7_put_96 ?_
                        refine z_iadd C dX7_put_97 ?_
                        refine z_istore_n C [(3, .int (z_I (mm + 1))), (4, .int (z_I 1)), (5, .int (z_I 0)), (7, .int (z_I cd)), (6, .int (z_I k)), (0, .ref hM), (1, .long (z_L cx))] dX7_put_98 (by decide) rfl ?_
                        refine z_iinc C 4 [(6, .int (z_I (k + 1))), (3, .int (z_I (mm + 1))), (4, .int (z_I 1)), (5, .int (z_I 0)), (7, .int (z_I cd)), (0, .ref hM), (1, .long (z_L cx))] dX7_put_99 rfl (by decide) rfl ?_
                        refine z_goto C 11 dX7_put_102 (by decide) ?_
                        refine z_lsub [(6, .int (z_I (k + 1))), (5, .int (z_I 0)), (4, .int (z_I 1)), (3, .int (z_I (mm + 1))), (0, .ref hM), (1, .long (z_L cx))] [0, 3, 2, 1, 5, 6] rfl ?_
                        exact ih11 (k + 1) 0 1 (mm + 1) (by first | assumption | omega) (z_pi_s hcx.1 (by omega) hcd hpi (by split <;> omega) (by split <;> omega) (by split <;> omega)) (by omega)
                    · first
                      | (exfalso; omega)
                      | skip
                        refine z_iconst C 0 dX7_put_92 ?_
                        refine z_goto C 97 dX7_put_93 (by decide) ?_
                        refine z_iadd C dX7_put_97 ?_
                        refine z_istore_n C [(3, .int (z_I (mm + 0))), (4, .int (z_I 1)), (5, .int (z_I 0)), (7, .int (z_I cd)), (6, .int (z_I k)), (0, .ref hM), (1, .long (z_L cx))] dX7_put_98 (by decide) rfl ?_
                        refine z_iinc C 4 [(6, .int (z_I (k + 1))), (3, .int (z_I (mm + 0))), (4, .int (z_I 1)), (5, .int (z_I 0)), (7, .int (z_I cd)), (0, .ref hM), (1, .long (z_L cx))] dX7_put_99 rfl (by decide) rfl ?_
                        refine z_goto C 11 dX7_put_102 (by decide) ?_
                        refine z_lsub [(6, .int (z_I (k + 1))), (5, .int (z_I 0)), (4, .int (z_I 1)), (3, .int (z_I (mm + 0))), (0, .ref hM), (1, .long (z_L cx))] [0, 3, 2, 1, 5, 6] rfl ?_
                        exact ih11 (k + 1) 0 1 (mm + 0) (by first | assumption | omega) (z_pi_s hcx.1 (by omega) hcd hpi (by split <;> omega) (by split <;> omega) (by split <;> omega)) (by omega)
              · first
                | (exfalso; omega)
                | skip
                  refine z_iload C 1 dX7_put_59 rfl ?_
                  refine z_if_ne C 83 dX7_put_61 (by decide) (by omega) (fun hc23 => ?_) (fun hc23 => ?_)
                  · skip
                    refine z_iconst C 0 dX7_put_83 ?_
                    refine z_istore C [(4, .int (z_I 0)), (5, .int (z_I 0)), (7, .int (z_I cd)), (6, .int (z_I k)), (3, .int (z_I mm)), (0, .ref hM), (1, .long (z_L cx))] dX7_put_84 (by decide) rfl ?_
                    refine z_iload_n C 4 dX7_put_86 rfl ?_
                    refine z_iload C 1 dX7_put_87 rfl ?_
                    refine z_if_eq C 96 dX7_put_89 (by decide) (by omega) (fun hc24 => ?_) (fun hc24 => ?_)
                    · first
                      | (exfalso; omega)
                      | skip
                        refine z_iconst C 1 dX7_put_96 ?_
                        refine z_iadd C dX7_put_97 ?_
                        refine z_istore_n C [(3, .int (z_I (mm + 1))), (4, .int (z_I 0)), (5, .int (z_I 0)), (7, .int (z_I cd)), (6, .int (z_I k)), (0, .ref hM), (1, .long (z_L cx))] dX7_put_98 (by decide) rfl ?_
                        refine z_iinc C 4 [(6, .int (z_I (k + 1))), (3, .int (z_I (mm + 1))), (4, .int (z_I 0)), (5, .int (z_I 0)), (7, .int (z_I cd)), (0, .ref hM), (1, .long (z_L cx))] dX7_put_99 rfl (by decide) rfl ?_
                        refine z_goto C 11 dX7_put_102 (by decide) ?_
                        refine z_lsub [(6, .int (z_I (k + 1))), (5, .int (z_I 0)), (4, .int (z_I 0)), (3, .int (z_I (mm + 1))), (0, .ref hM), (1, .long (z_L cx))] [0, 3, 2, 1, 5, 6] rfl ?_
                        exact ih11 (k + 1) 0 0 (mm + 1) (by first | assumption | omega) (z_pi_s hcx.1 (by omega) hcd hpi (by split <;> omega) (by split <;> omega) (by split <;> omega)) (by omega)
                    · first
                      | (exfalso; omega)
                      | skip
                        refine z_iconst C 0 dX7_put_92 ?_
                        refine z_goto C 97 dX7_put_93 (by decide) ?_
                        refine z_iadd C dX7_put_97 ?_
                        refine z_istore_n C [(3, .int (z_I (mm + 0))), (4, .int (z_I 0)), (5, .int (z_I 0)), (7, .int (z_I cd)), (6, .int (z_I k)), (0, .ref hM), (1, .long (z_L cx))] dX7_put_98 (by decide) rfl ?_
                        refine z_iinc C 4 [(6, .int (z_I (k + 1))), (3, .int (z_I (mm + 0))), (4, .int (z_I 0)), (5, .int (z_I 0)), (7, .int (z_I cd)), (0, .ref hM), (1, .long (z_L cx))] dX7_put_99 rfl (by decide) rfl ?_
                        refine z_goto C 11 dX7_put_102 (by decide) ?_
                        refine z_lsub [(6, .int (z_I (k + 1))), (5, .int (z_I 0)), (4, .int (z_I 0)), (3, .int (z_I (mm + 0))), (0, .ref hM), (1, .long (z_L cx))] [0, 3, 2, 1, 5, 6] rfl ?_
                        exact ih11 (k + 1) 0 0 (mm + 0) (by first | assumption | omega) (z_pi_s hcx.1 (by omega) hcd hpi (by split <;> omega) (by split <;> omega) (by split <;> omega)) (by omega)
                  · skip
                    refine z_goto C 79 dX7_put_64 (by decide) ?_
                    refine z_iconst C 1 dX7_put_79 ?_
                    refine z_goto C 84 dX7_put_80 (by decide) ?_
                    refine z_istore C [(4, .int (z_I 1)), (5, .int (z_I 0)), (7, .int (z_I cd)), (6, .int (z_I k)), (3, .int (z_I mm)), (0, .ref hM), (1, .long (z_L cx))] dX7_put_84 (by decide) rfl ?_
                    refine z_iload_n C 4 dX7_put_86 rfl ?_
                    refine z_iload C 1 dX7_put_87 rfl ?_
                    refine z_if_eq C 96 dX7_put_89 (by decide) (by omega) (fun hc25 => ?_) (fun hc25 => ?_)
                    · first
                      | (exfalso; omega)
                      | skip
                        refine z_iconst C 1 dX7_put_96 ?_
                        refine z_iadd C dX7_put_97 ?_
                        refine z_istore_n C [(3, .int (z_I (mm + 1))), (4, .int (z_I 1)), (5, .int (z_I 0)), (7, .int (z_I cd)), (6, .int (z_I k)), (0, .ref hM), (1, .long (z_L cx))] dX7_put_98 (by decide) rfl ?_
                        refine z_iinc C 4 [(6, .int (z_I (k + 1))), (3, .int (z_I (mm + 1))), (4, .int (z_I 1)), (5, .int (z_I 0)), (7, .int (z_I cd)), (0, .ref hM), (1, .long (z_L cx))] dX7_put_99 rfl (by decide) rfl ?_
                        refine z_goto C 11 dX7_put_102 (by decide) ?_
                        refine z_lsub [(6, .int (z_I (k + 1))), (5, .int (z_I 0)), (4, .int (z_I 1)), (3, .int (z_I (mm + 1))), (0, .ref hM), (1, .long (z_L cx))] [0, 3, 2, 1, 5, 6] rfl ?_
                        exact ih11 (k + 1) 0 1 (mm + 1) (by first | assumption | omega) (z_pi_s hcx.1 (by omega) hcd hpi (by split <;> omega) (by split <;> omega) (by split <;> omega)) (by omega)
                    · first
                      | (exfalso; omega)
                      | skip
                        refine z_iconst C 0 dX7_put_92 ?_
                        refine z_goto C 97 dX7_put_93 (by decide) ?_
                        refine z_iadd C dX7_put_97 ?_
                        refine z_istore_n C [(3, .int (z_I (mm + 0))), (4, .int (z_I 1)), (5, .int (z_I 0)), (7, .int (z_I cd)), (6, .int (z_I k)), (0, .ref hM), (1, .long (z_L cx))] dX7_put_98 (by decide) rfl ?_
                        refine z_iinc C 4 [(6, .int (z_I (k + 1))), (3, .int (z_I (mm + 0))), (4, .int (z_I 1)), (5, .int (z_I 0)), (7, .int (z_I cd)), (0, .ref hM), (1, .long (z_L cx))] dX7_put_99 rfl (by decide) rfl ?_
                        refine z_goto C 11 dX7_put_102 (by decide) ?_
                        refine z_lsub [(6, .int (z_I (k + 1))), (5, .int (z_I 0)), (4, .int (z_I 1)), (3, .int (z_I (mm + 0))), (0, .ref hM), (1, .long (z_L cx))] [0, 3, 2, 1, 5, 6] rfl ?_
                        exact ih11 (k + 1) 0 1 (mm + 0) (by first | assumption | omega) (z_pi_s hcx.1 (by omega) hcd hpi (by split <;> omega) (by split <;> omega) (by split <;> omega)) (by omega)
          · skip
            refine z_iconst C 1 dX7_put_42 ?_
            refine z_goto C 47 dX7_put_43 (by decide) ?_
            refine z_istore C [(5, .int (z_I 1)), (7, .int (z_I cd)), (6, .int (z_I k)), (4, .int (z_I r)), (3, .int (z_I mm)), (0, .ref hM), (1, .long (z_L cx))] dX7_put_47 (by decide) rfl ?_
            refine z_iload C 3 dX7_put_49 rfl ?_
            refine z_if_eq C 83 dX7_put_51 (by decide) (by omega) (fun hc26 => ?_) (fun hc26 => ?_)
            · skip
              refine z_iconst C 0 dX7_put_83 ?_
              refine z_istore C [(4, .int (z_I 0)), (5, .int (z_I 1)), (7, .int (z_I cd)), (6, .int (z_I k)), (3, .int (z_I mm)), (0, .ref hM), (1, .long (z_L cx))] dX7_put_84 (by decide) rfl ?_
              refine z_iload_n C 4 dX7_put_86 rfl ?_
              refine z_iload C 1 dX7_put_87 rfl ?_
              refine z_if_eq C 96 dX7_put_89 (by decide) (by omega) (fun hc27 => ?_) (fun hc27 => ?_)
              · first
                | (exfalso; omega)
                | skip
                  refine z_iconst C 1 dX7_put_96 ?_
                  refine z_iadd C dX7_put_97 ?_
                  refine z_istore_n C [(3, .int (z_I (mm + 1))), (4, .int (z_I 0)), (5, .int (z_I 1)), (7, .int (z_I cd)), (6, .int (z_I k)), (0, .ref hM), (1, .long (z_L cx))] dX7_put_98 (by decide) rfl ?_
                  refine z_iinc C 4 [(6, .int (z_I (k + 1))), (3, .int (z_I (mm + 1))), (4, .int (z_I 0)), (5, .int (z_I 1)), (7, .int (z_I cd)), (0, .ref hM), (1, .long (z_L cx))] dX7_put_99 rfl (by decide) rfl ?_
                  refine z_goto C 11 dX7_put_102 (by decide) ?_
                  refine z_lsub [(6, .int (z_I (k + 1))), (5, .int (z_I 1)), (4, .int (z_I 0)), (3, .int (z_I (mm + 1))), (0, .ref hM), (1, .long (z_L cx))] [0, 3, 2, 1, 5, 6] rfl ?_
                  exact ih11 (k + 1) 1 0 (mm + 1) (by first | assumption | omega) (z_pi_s hcx.1 (by omega) hcd hpi (by split <;> omega) (by split <;> omega) (by split <;> omega)) (by omega)
              · first
                | (exfalso; omega)
                | skip
                  refine z_iconst C 0 dX7_put_92 ?_
                  refine z_goto C 97 dX7_put_93 (by decide) ?_
                  refine z_iadd C dX7_put_97 ?_
                  refine z_istore_n C [(3, .int (z_I (mm + 0))), (4, .int (z_I 0)), (5, .int (z_I 1)), (7, .int (z_I cd)), (6, .int (z_I k)), (0, .ref hM), (1, .long (z_L cx))] dX7_put_98 (by decide) rfl ?_
                  refine z_iinc C 4 [(6, .int (z_I (k + 1))), (3, .int (z_I (mm + 0))), (4, .int (z_I 0)), (5, .int (z_I 1)), (7, .int (z_I cd)), (0, .ref hM), (1, .long (z_L cx))] dX7_put_99 rfl (by decide) rfl ?_
                  refine z_goto C 11 dX7_put_102 (by decide) ?_
                  refine z_lsub [(6, .int (z_I (k + 1))), (5, .int (z_I 1)), (4, .int (z_I 0)), (3, .int (z_I (mm + 0))), (0, .ref hM), (1, .long (z_L cx))] [0, 3, 2, 1, 5, 6] rfl ?_
                  exact ih11 (k + 1) 1 0 (mm + 0) (by first | assumption | omega) (z_pi_s hcx.1 (by omega) hcd hpi (by split <;> omega) (by split <;> omega) (by split <;> omega)) (by omega)
            · skip
              refine z_iload C 0 dX7_put_54 rfl ?_
              refine z_if_eq C 67 dX7_put_56 (by decide) (by omega) (fun hc28 => ?_) (fun hc28 => ?_)
              · first
                | (exfalso; omega)
                | skip
                  refine z_iload C 1 dX7_put_67 rfl ?_
                  refine z_bipush C 33 dX7_put_69 (by decide) ?_
                  refine z_bipush C 126 dX7_put_71 (by decide) ?_
                  refine z_callSi C [] [(hM, .inr (7, [.ref aS, .ref aPa, .int (z_I kn), .ref aSl, .ref aSv, .ref aPd, .int (z_I ln)])), (aPd, z_ai cI 80 pd)] [.int (z_I cd), .int (z_I 33), .int (z_I 126)] [] (c_X7_in l D cI cZ cO cd 33 126 (by first | assumption | omega) (by first | assumption | omega) (by first | assumption | omega)) gX7_put_X7_in rfl zd_X7_in rfl (by decide) rfl (by decide) rfl rfl rfl (Nat.le_of_ble_eq_true rfl) (by decide) dX7_put_73 ?_
                  refine z_if_eq C 83 dX7_put_76 (by decide) (by omega) (fun hc29 => ?_) (fun hc29 => ?_)
                  · skip
                    have hz := z_if0.mp hc29
                    refine z_iconst C 0 dX7_put_83 ?_
                    refine z_istore C [(4, .int (z_I 0)), (5, .int (z_I 1)), (7, .int (z_I cd)), (6, .int (z_I k)), (3, .int (z_I mm)), (0, .ref hM), (1, .long (z_L cx))] dX7_put_84 (by decide) rfl ?_
                    refine z_iload_n C 4 dX7_put_86 rfl ?_
                    refine z_iload C 1 dX7_put_87 rfl ?_
                    refine z_if_eq C 96 dX7_put_89 (by decide) (by omega) (fun hc30 => ?_) (fun hc30 => ?_)
                    · first
                      | (exfalso; omega)
                      | skip
                        refine z_iconst C 1 dX7_put_96 ?_
                        refine z_iadd C dX7_put_97 ?_
                        refine z_istore_n C [(3, .int (z_I (mm + 1))), (4, .int (z_I 0)), (5, .int (z_I 1)), (7, .int (z_I cd)), (6, .int (z_I k)), (0, .ref hM), (1, .long (z_L cx))] dX7_put_98 (by decide) rfl ?_
                        refine z_iinc C 4 [(6, .int (z_I (k + 1))), (3, .int (z_I (mm + 1))), (4, .int (z_I 0)), (5, .int (z_I 1)), (7, .int (z_I cd)), (0, .ref hM), (1, .long (z_L cx))] dX7_put_99 rfl (by decide) rfl ?_
                        refine z_goto C 11 dX7_put_102 (by decide) ?_
                        refine z_lsub [(6, .int (z_I (k + 1))), (5, .int (z_I 1)), (4, .int (z_I 0)), (3, .int (z_I (mm + 1))), (0, .ref hM), (1, .long (z_L cx))] [0, 3, 2, 1, 5, 6] rfl ?_
                        exact ih11 (k + 1) 1 0 (mm + 1) (by first | assumption | omega) (z_pi_s hcx.1 (by omega) hcd hpi (by split <;> omega) (by split <;> omega) (by split <;> omega)) (by omega)
                    · first
                      | (exfalso; omega)
                      | skip
                        refine z_iconst C 0 dX7_put_92 ?_
                        refine z_goto C 97 dX7_put_93 (by decide) ?_
                        refine z_iadd C dX7_put_97 ?_
                        refine z_istore_n C [(3, .int (z_I (mm + 0))), (4, .int (z_I 0)), (5, .int (z_I 1)), (7, .int (z_I cd)), (6, .int (z_I k)), (0, .ref hM), (1, .long (z_L cx))] dX7_put_98 (by decide) rfl ?_
                        refine z_iinc C 4 [(6, .int (z_I (k + 1))), (3, .int (z_I (mm + 0))), (4, .int (z_I 0)), (5, .int (z_I 1)), (7, .int (z_I cd)), (0, .ref hM), (1, .long (z_L cx))] dX7_put_99 rfl (by decide) rfl ?_
                        refine z_goto C 11 dX7_put_102 (by decide) ?_
                        refine z_lsub [(6, .int (z_I (k + 1))), (5, .int (z_I 1)), (4, .int (z_I 0)), (3, .int (z_I (mm + 0))), (0, .ref hM), (1, .long (z_L cx))] [0, 3, 2, 1, 5, 6] rfl ?_
                        exact ih11 (k + 1) 1 0 (mm + 0) (by first | assumption | omega) (z_pi_s hcx.1 (by omega) hcd hpi (by split <;> omega) (by split <;> omega) (by split <;> omega)) (by omega)
                  · skip
                    have hz := z_if1.mp (by omega)
                    refine z_iconst C 1 dX7_put_79 ?_
                    refine z_goto C 84 dX7_put_80 (by decide) ?_
                    refine z_istore C [(4, .int (z_I 1)), (5, .int (z_I 1)), (7, .int (z_I cd)), (6, .int (z_I k)), (3, .int (z_I mm)), (0, .ref hM), (1, .long (z_L cx))] dX7_put_84 (by decide) rfl ?_
                    refine z_iload_n C 4 dX7_put_86 rfl ?_
                    refine z_iload C 1 dX7_put_87 rfl ?_
                    refine z_if_eq C 96 dX7_put_89 (by decide) (by omega) (fun hc31 => ?_) (fun hc31 => ?_)
                    · first
                      | (exfalso; omega)
                      | skip
                        refine z_iconst C 1 dX7_put_96 ?_
                        refine z_iadd C dX7_put_97 ?_
                        refine z_istore_n C [(3, .int (z_I (mm + 1))), (4, .int (z_I 1)), (5, .int (z_I 1)), (7, .int (z_I cd)), (6, .int (z_I k)), (0, .ref hM), (1, .long (z_L cx))] dX7_put_98 (by decide) rfl ?_
                        refine z_iinc C 4 [(6, .int (z_I (k + 1))), (3, .int (z_I (mm + 1))), (4, .int (z_I 1)), (5, .int (z_I 1)), (7, .int (z_I cd)), (0, .ref hM), (1, .long (z_L cx))] dX7_put_99 rfl (by decide) rfl ?_
                        refine z_goto C 11 dX7_put_102 (by decide) ?_
                        refine z_lsub [(6, .int (z_I (k + 1))), (5, .int (z_I 1)), (4, .int (z_I 1)), (3, .int (z_I (mm + 1))), (0, .ref hM), (1, .long (z_L cx))] [0, 3, 2, 1, 5, 6] rfl ?_
                        exact ih11 (k + 1) 1 1 (mm + 1) (by first | assumption | omega) (z_pi_s hcx.1 (by omega) hcd hpi (by split <;> omega) (by split <;> omega) (by split <;> omega)) (by omega)
                    · first
                      | (exfalso; omega)
                      | skip
                        refine z_iconst C 0 dX7_put_92 ?_
                        refine z_goto C 97 dX7_put_93 (by decide) ?_
                        refine z_iadd C dX7_put_97 ?_
                        refine z_istore_n C [(3, .int (z_I (mm + 0))), (4, .int (z_I 1)), (5, .int (z_I 1)), (7, .int (z_I cd)), (6, .int (z_I k)), (0, .ref hM), (1, .long (z_L cx))] dX7_put_98 (by decide) rfl ?_
                        refine z_iinc C 4 [(6, .int (z_I (k + 1))), (3, .int (z_I (mm + 0))), (4, .int (z_I 1)), (5, .int (z_I 1)), (7, .int (z_I cd)), (0, .ref hM), (1, .long (z_L cx))] dX7_put_99 rfl (by decide) rfl ?_
                        refine z_goto C 11 dX7_put_102 (by decide) ?_
                        refine z_lsub [(6, .int (z_I (k + 1))), (5, .int (z_I 1)), (4, .int (z_I 1)), (3, .int (z_I (mm + 0))), (0, .ref hM), (1, .long (z_L cx))] [0, 3, 2, 1, 5, 6] rfl ?_
                        exact ih11 (k + 1) 1 1 (mm + 0) (by first | assumption | omega) (z_pi_s hcx.1 (by omega) hcd hpi (by split <;> omega) (by split <;> omega) (by split <;> omega)) (by omega)
              · first
                | (exfalso; omega)
                | skip
                  refine z_iload C 1 dX7_put_59 rfl ?_
                  refine z_if_ne C 83 dX7_put_61 (by decide) (by omega) (fun hc32 => ?_) (fun hc32 => ?_)
                  · skip
                    refine z_iconst C 0 dX7_put_83 ?_
                    refine z_istore C [(4, .int (z_I 0)), (5, .int (z_I 1)), (7, .int (z_I cd)), (6, .int (z_I k)), (3, .int (z_I mm)), (0, .ref hM), (1, .long (z_L cx))] dX7_put_84 (by decide) rfl ?_
                    refine z_iload_n C 4 dX7_put_86 rfl ?_
                    refine z_iload C 1 dX7_put_87 rfl ?_
                    refine z_if_eq C 96 dX7_put_89 (by decide) (by omega) (fun hc33 => ?_) (fun hc33 => ?_)
                    · first
                      | (exfalso; omega)
                      | skip
                        refine z_iconst C 1 dX7_put_96 ?_
                        refine z_iadd C dX7_put_97 ?_
                        refine z_istore_n C [(3, .int (z_I (mm + 1))), (4, .int (z_I 0)), (5, .int (z_I 1)), (7, .int (z_I cd)), (6, .int (z_I k)), (0, .ref hM), (1, .long (z_L cx))] dX7_put_98 (by decide) rfl ?_
                        refine z_iinc C 4 [(6, .int (z_I (k + 1))), (3, .int (z_I (mm + 1))), (4, .int (z_I 0)), (5, .int (z_I 1)), (7, .int (z_I cd)), (0, .ref hM), (1, .long (z_L cx))] dX7_put_99 rfl (by decide) rfl ?_
                        refine z_goto C 11 dX7_put_102 (by decide) ?_
                        refine z_lsub [(6, .int (z_I (k + 1))), (5, .int (z_I 1)), (4, .int (z_I 0)), (3, .int (z_I (mm + 1))), (0, .ref hM), (1, .long (z_L cx))] [0, 3, 2, 1, 5, 6] rfl ?_
                        exact ih11 (k + 1) 1 0 (mm + 1) (by first | assumption | omega) (z_pi_s hcx.1 (by omega) hcd hpi (by split <;> omega) (by split <;> omega) (by split <;> omega)) (by omega)
                    · first
                      | (exfalso; omega)
                      | skip
                        refine z_iconst C 0 dX7_put_92 ?_
                        refine z_goto C 97 dX7_put_93 (by decide) ?_
                        refine z_iadd C dX7_put_97 ?_
                        refine z_istore_n C [(3, .int (z_I (mm + 0))), (4, .int (z_I 0)), (5, .int (z_I 1)), (7, .int (z_I cd)), (6, .int (z_I k)), (0, .ref hM), (1, .long (z_L cx))] dX7_put_98 (by decide) rfl ?_
                        refine z_iinc C 4 [(6, .int (z_I (k + 1))), (3, .int (z_I (mm + 0))), (4, .int (z_I 0)), (5, .int (z_I 1)), (7, .int (z_I cd)), (0, .ref hM), (1, .long (z_L cx))] dX7_put_99 rfl (by decide) rfl ?_
                        refine z_goto C 11 dX7_put_102 (by decide) ?_
                        refine z_lsub [(6, .int (z_I (k + 1))), (5, .int (z_I 1)), (4, .int (z_I 0)), (3, .int (z_I (mm + 0))), (0, .ref hM), (1, .long (z_L cx))] [0, 3, 2, 1, 5, 6] rfl ?_
                        exact ih11 (k + 1) 1 0 (mm + 0) (by first | assumption | omega) (z_pi_s hcx.1 (by omega) hcd hpi (by split <;> omega) (by split <;> omega) (by split <;> omega)) (by omega)
                  · skip
                    refine z_goto C 79 dX7_put_64 (by decide) ?_
                    refine z_iconst C 1 dX7_put_79 ?_
                    refine z_goto C 84 dX7_put_80 (by decide) ?_
                    refine z_istore C [(4, .int (z_I 1)), (5, .int (z_I 1)), (7, .int (z_I cd)), (6, .int (z_I k)), (3, .int (z_I mm)), (0, .ref hM), (1, .long (z_L cx))] dX7_put_84 (by decide) rfl ?_
                    refine z_iload_n C 4 dX7_put_86 rfl ?_
                    refine z_iload C 1 dX7_put_87 rfl ?_
                    refine z_if_eq C 96 dX7_put_89 (by decide) (by omega) (fun hc34 => ?_) (fun hc34 => ?_)
                    · first
                      | (exfalso; omega)
                      | skip
                        refine z_iconst C 1 dX7_put_96 ?_
                        refine z_iadd C dX7_put_97 ?_
                        refine z_istore_n C [(3, .int (z_I (mm + 1))), (4, .int (z_I 1)), (5, .int (z_I 1)), (7, .int (z_I cd)), (6, .int (z_I k)), (0, .ref hM), (1, .long (z_L cx))] dX7_put_98 (by decide) rfl ?_
                        refine z_iinc C 4 [(6, .int (z_I (k + 1))), (3, .int (z_I (mm + 1))), (4, .int (z_I 1)), (5, .int (z_I 1)), (7, .int (z_I cd)), (0, .ref hM), (1, .long (z_L cx))] dX7_put_99 rfl (by decide) rfl ?_
                        refine z_goto C 11 dX7_put_102 (by decide) ?_
                        refine z_lsub [(6, .int (z_I (k + 1))), (5, .int (z_I 1)), (4, .int (z_I 1)), (3, .int (z_I (mm + 1))), (0, .ref hM), (1, .long (z_L cx))] [0, 3, 2, 1, 5, 6] rfl ?_
                        exact ih11 (k + 1) 1 1 (mm + 1) (by first | assumption | omega) (z_pi_s hcx.1 (by omega) hcd hpi (by split <;> omega) (by split <;> omega) (by split <;> omega)) (by omega)
                    · first
                      | (exfalso; omega)
                      | skip
                        refine z_iconst C 0 dX7_put_92 ?_
                        refine z_goto C 97 dX7_put_93 (by decide) ?_
                        refine z_iadd C dX7_put_97 ?_
                        refine z_istore_n C [(3, .int (z_I (mm + 0))), (4, .int (z_I 1)), (5, .int (z_I 1)), (7, .int (z_I cd)), (6, .int (z_I k)), (0, .ref hM), (1, .long (z_L cx))] dX7_put_98 (by decide) rfl ?_
                        refine z_iinc C 4 [(6, .int (z_I (k + 1))), (3, .int (z_I (mm + 0))), (4, .int (z_I 1)), (5, .int (z_I 1)), (7, .int (z_I cd)), (0, .ref hM), (1, .long (z_L cx))] dX7_put_99 rfl (by decide) rfl ?_
                        refine z_goto C 11 dX7_put_102 (by decide) ?_
                        refine z_lsub [(6, .int (z_I (k + 1))), (5, .int (z_I 1)), (4, .int (z_I 1)), (3, .int (z_I (mm + 0))), (0, .ref hM), (1, .long (z_L cx))] [0, 3, 2, 1, 5, 6] rfl ?_
                        exact ih11 (k + 1) 1 1 (mm + 0) (by first | assumption | omega) (z_pi_s hcx.1 (by omega) hcd hpi (by split <;> omega) (by split <;> omega) (by split <;> omega)) (by omega)
  exact loop11 9 0 0 1 0 (by first | assumption | omega) (z_pi_0 cx) (by omega)
