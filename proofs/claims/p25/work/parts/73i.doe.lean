theorem zd_L_does : yL_does.cls ≠ "java/lang/invoke/MethodHandle" ∧ yL_does.cls ≠ "java/lang/invoke/VarHandle" ∧ (parseMethodDescriptor yL_does.desc).map (fun d => d.parameters.length) = some 2 := by decide +kernel
set_option maxHeartbeats 4000000 in
set_option maxRecDepth 100000 in
theorem c_L_does (l : Launch) (D : va_G) (cI cZ cO : ClassId) (g : Nat → Nat) (ct : z_Ct) (J : p_J) (v : Int) (hx : x_ok ct) (ht : ct.1.1 + 70 ≤ 9999) (hJ : p_ok J) : z_Ei (z_Ct × p_J) l yL_does wsL_does 6 155 D (z_T cI cZ cO) [.ref (g 0), .int (z_I v)] ((pw cI cZ cO g ct J ++ []).flatten) (fun u => (pw cI cZ cO g u.1 u.2 ++ []).flatten) (fun i u => i = 1 ∧ x_ok u.1 ∧ u.1.1.1 ≤ ct.1.1 + 70 ∧ p_ok u.2) := by
  refine z_Ei_of (cc := cL_does) (nL := 15) (ret := (some .boolean)) (by decide +kernel) rfl (Nat.le_of_ble_eq_true rfl) ?_
  intro p e s m args below meth c A Q C hQ
  change z_V p l e { frames := 6, cells := 0, slots := 0, locals := 155 } s m args below meth c D A 15 0 0 Q ((pw cI cZ cO g ct J ++ []).flatten) 0 [(0, .ref (g 0)), (1, .int (z_I v))] []
  obtain ⟨t0, st0, p20, sh0, ow0, ck0, rn0, lw0, ho0, lc0, ld0, rl0, sn0, lct, owz⟩ := x_bas hx
  have htt : ct.1.1 ≤ 9999 := by omega
  have lo6 := x_lo_rng (x_sr v 4) (n := 6) (by decide)
  have lo16 := x_lo_rng v (n := 16) (by decide)
  have lo20 := x_lo_rng (x_sr v 7) (n := 20) (by decide)
  have lo6b := x_lo_rng (x_sr v 7) (n := 6) (by decide)
  have lo21 := x_lo_rng (x_sr v 4) (n := 21) (by decide)
  have lo5 := x_lo_rng (x_sr v 7) (n := 5) (by decide)
  have lo70 := x_lo_rng (x_sr v 4) (n := 70) (by decide)
  have lo5b := x_lo_rng (x_sr v 4) (n := 5) (by decide)
  have ra1 := x_an_rng (x_sr v 12) 3
  have ra2 := x_an_rng (x_sr v 9) 1
  have ra3 := x_an_rng (x_sr v 4) 7
  have ra4 := x_an_rng (x_sr v 9) 3
  refine z_iload_n C 1 dL_does_0 rfl ?_
  refine z_iconst C 4 dL_does_1 ?_
  refine z_ishr C (x_sr v 4) dL_does_2 (x_sr_eq _ _) ?_
  refine z_bipush C 6 dL_does_3 (by decide) ?_
  refine z_callSi C [] ((pw cI cZ cO g ct J ++ []).flatten) [.int (z_I (x_sr v 4)), .int (z_I 6)] [] (c_L_low l D (z_T cI cZ cO) (x_sr v 4) 6 (by omega)) gL_does_L_low rfl zd_L_low rfl ⟨Nat.le_of_ble_eq_true rfl, Nat.le_of_ble_eq_true rfl⟩ rfl rfl rfl rfl rfl (Nat.le_of_ble_eq_true rfl) ⟨Nat.le_of_ble_eq_true rfl, Nat.le_of_ble_eq_true rfl⟩ dL_does_5 ?_
  refine z_istore_n C [(2, .int (z_I (x_lo (x_sr v 4) 6))), (0, .ref (g 0)), (1, .int (z_I v))] dL_does_8 (by decide) rfl ?_
  refine z_aload_n C 1 dL_does_9 rfl ?_
  refine z_iconst C 4 dL_does_10 ?_
  refine pq_count (F := ct.2.1.1) C gL_does_X6_count dL_does_11 ⟨Nat.le_of_ble_eq_true rfl, Nat.le_of_ble_eq_true rfl⟩ ⟨Nat.le_of_ble_eq_true rfl, Nat.le_of_ble_eq_true rfl⟩ hx.1 htt 4 ⟨by omega, by omega⟩ (pa_count4 (kp := J.1)) (Nat.le_of_ble_eq_true rfl) ?_
  refine z_aload_n C 1 dL_does_14 rfl ?_
  refine z_bipush C 9 dL_does_15 (by decide) ?_
  refine pq_count (F := ct.2.2.2.2.2.2.2) C gL_does_X6_count dL_does_17 ⟨Nat.le_of_ble_eq_true rfl, Nat.le_of_ble_eq_true rfl⟩ ⟨Nat.le_of_ble_eq_true rfl, Nat.le_of_ble_eq_true rfl⟩ hx.1 htt 9 ⟨by omega, by omega⟩ (pa_count9 (kp := J.1)) (Nat.le_of_ble_eq_true rfl) ?_
  refine z_iadd C dL_does_20 ?_
  refine z_istore_n C [(3, .int (z_I (ct.2.1.1 + ct.2.2.2.2.2.2.2))), (2, .int (z_I (x_lo (x_sr v 4) 6))), (0, .ref (g 0)), (1, .int (z_I v))] dL_does_21 (by decide) rfl ?_
  refine z_iload_n C 3 dL_does_22 rfl ?_
  refine z_bipush C 16 dL_does_23 (by decide) ?_
  refine z_callSi C [] ((pw cI cZ cO g ct J ++ []).flatten) [.int (z_I v), .int (z_I 16)] [] (c_L_low l D (z_T cI cZ cO) v 16 (by omega)) gL_does_L_low rfl zd_L_low rfl ⟨Nat.le_of_ble_eq_true rfl, Nat.le_of_ble_eq_true rfl⟩ rfl rfl rfl rfl rfl (Nat.le_of_ble_eq_true rfl) ⟨Nat.le_of_ble_eq_true rfl, Nat.le_of_ble_eq_true rfl⟩ dL_does_25 ?_
  have br84 : z_V p l e { frames := 6, cells := 0, slots := 0, locals := 155 } s m args below meth c D A 15 0 0 Q (pw cI cZ cO g ct J ++ []).flatten 84 [(3, .int (z_I (ct.2.1.1 + ct.2.2.2.2.2.2.2))), (2, .int (z_I (x_lo (x_sr v 4) 6))), (0, .ref (g 0)), (1, .int (z_I v))] [] := by
    refine z_aload_n C 2 dL_does_84 rfl ?_
    refine z_iconst C 2 dL_does_85 ?_
    refine pq_count (F := ct.2.2.2.2.1) C gL_does_X6_count dL_does_86 ⟨Nat.le_of_ble_eq_true rfl, Nat.le_of_ble_eq_true rfl⟩ ⟨Nat.le_of_ble_eq_true rfl, Nat.le_of_ble_eq_true rfl⟩ hx.1 htt 2 ⟨by omega, by omega⟩ (pa_count2 (kp := J.1)) (Nat.le_of_ble_eq_true rfl) ?_
    refine z_istore C [(4, .int (z_I ct.2.2.2.2.1)), (3, .int (z_I (ct.2.1.1 + ct.2.2.2.2.2.2.2))), (2, .int (z_I (x_lo (x_sr v 4) 6))), (0, .ref (g 0)), (1, .int (z_I v))] dL_does_89 (by decide) rfl ?_
    by_cases hq : ct.2.2.2.2.2.1 = ct.1.1
    · skip
      have h0w := lct hq
      refine z_aload_n C 3 dL_does_91 rfl ?_
      refine pq_clock (F := (-5)) C gL_does_X6_clock dL_does_92 ⟨Nat.le_of_ble_eq_true rfl, Nat.le_of_ble_eq_true rfl⟩ ⟨Nat.le_of_ble_eq_true rfl, Nat.le_of_ble_eq_true rfl⟩ hx.1 htt hJ   (x_tcY hq).1 (Nat.le_of_ble_eq_true rfl) ?_
      obtain ⟨js2, ejs2, hjs2⟩ : ∃ j : p_J, p_st J ct (z_tcA ct) = j ∧ p_ok j := ⟨_, rfl, p_st_ok hJ hx.1 htt _⟩
      rw [ejs2]
      rw [(x_tcY hq).2]
      refine z_istore C [(5, .int (z_I (-5))), (4, .int (z_I ct.2.2.2.2.1)), (3, .int (z_I (ct.2.1.1 + ct.2.2.2.2.2.2.2))), (2, .int (z_I (x_lo (x_sr v 4) 6))), (0, .ref (g 0)), (1, .int (z_I v))] dL_does_95 (by decide) rfl ?_
      refine z_iload C 0 dL_does_97 rfl ?_
      refine z_bipush C (-5) dL_does_99 (by decide) ?_
      refine z_icmp_ne C 130 dL_does_101 (by decide) ⟨by omega, by omega⟩ ⟨by omega, by omega⟩ (fun hc3 => absurd hc3 (by omega)) (fun hc3 => ?_)
      refine z_aload_n C 4 dL_does_104 rfl ?_
      refine z_iconst C 2 dL_does_105 ?_
      refine pq_count (F := ct.2.2.2.2.1) C gL_does_X6_count dL_does_106 ⟨Nat.le_of_ble_eq_true rfl, Nat.le_of_ble_eq_true rfl⟩ ⟨Nat.le_of_ble_eq_true rfl, Nat.le_of_ble_eq_true rfl⟩ hx.1 htt 2 ⟨by omega, by omega⟩ (pa_count2 (kp := js2.1)) (Nat.le_of_ble_eq_true rfl) ?_
      refine z_iload C 1 dL_does_109 rfl ?_
      refine z_icmp_ne C 126 dL_does_111 (by decide) ⟨by omega, by omega⟩ ⟨by omega, by omega⟩ (fun hc4 => absurd hc4 (by omega)) (fun hc4 => ?_)
      refine z_aload_n C 4 dL_does_114 rfl ?_
      refine z_iconst C 3 dL_does_115 ?_
      refine pq_count (F := ct.1.2.2.2.1) C gL_does_X6_count dL_does_116 ⟨Nat.le_of_ble_eq_true rfl, Nat.le_of_ble_eq_true rfl⟩ ⟨Nat.le_of_ble_eq_true rfl, Nat.le_of_ble_eq_true rfl⟩ hx.1 htt 3 ⟨by omega, by omega⟩ (pa_count3 (kp := js2.1)) (Nat.le_of_ble_eq_true rfl) ?_
      refine z_if_le C 126 dL_does_119 (by decide) ⟨by omega, by omega⟩ (fun hc5 => absurd hc5 (by omega)) (fun hc5 => ?_)
      refine z_iconst C 1 dL_does_122 ?_
      refine z_goto C 162 dL_does_123 (by decide) ?_
      exact z_zrete C hQ (ct, js2) rfl ⟨rfl, hx, (by show ct.1.1 ≤ ct.1.1 + 70; omega), hjs2⟩ (Or.inr rfl) dL_does_162
    · skip
      have hx3 := x_take hx hq
      have hm1 := Int.emod_nonneg (ct.2.2.2.2.1 + 1) (show z_p2 ct.1.2.1 ≠ 0 by omega)
      have hm2 := Int.emod_lt_of_pos (ct.2.2.2.2.1 + 1) (show 0 < z_p2 ct.1.2.1 by omega)
      have tk1 : (z_take ct).1.1 = ct.1.1 := rfl
      refine z_aload_n C 3 dL_does_91 rfl ?_
      refine pq_clock (F := ((ct.2.2.2.2.1 + 1) % z_p2 ct.1.2.1)) C gL_does_X6_clock dL_does_92 ⟨Nat.le_of_ble_eq_true rfl, Nat.le_of_ble_eq_true rfl⟩ ⟨Nat.le_of_ble_eq_true rfl, Nat.le_of_ble_eq_true rfl⟩ hx.1 htt hJ   (x_tcN hq).1 (Nat.le_of_ble_eq_true rfl) ?_
      obtain ⟨js6, ejs6, hjs6⟩ : ∃ j : p_J, p_st J ct (z_tcA ct) = j ∧ p_ok j := ⟨_, rfl, p_st_ok hJ hx.1 htt _⟩
      rw [ejs6]
      rw [(x_tcN hq).2]
      refine z_istore C [(5, .int (z_I ((ct.2.2.2.2.1 + 1) % z_p2 ct.1.2.1))), (4, .int (z_I ct.2.2.2.2.1)), (3, .int (z_I (ct.2.1.1 + ct.2.2.2.2.2.2.2))), (2, .int (z_I (x_lo (x_sr v 4) 6))), (0, .ref (g 0)), (1, .int (z_I v))] dL_does_95 (by decide) rfl ?_
      refine z_iload C 0 dL_does_97 rfl ?_
      refine z_bipush C (-5) dL_does_99 (by decide) ?_
      refine z_icmp_ne C 130 dL_does_101 (by decide) ⟨by omega, by omega⟩ ⟨by omega, by omega⟩ (fun hc7 => ?_) (fun hc7 => absurd hc7 (by omega))
      refine z_iload C 0 dL_does_130 rfl ?_
      refine z_iload C 1 dL_does_132 rfl ?_
      refine z_iconst C 1 dL_does_134 ?_
      refine z_iadd C dL_does_135 ?_
      refine z_iconst C 1 dL_does_136 ?_
      refine z_aload_n C 4 dL_does_137 rfl ?_
      refine z_bipush C 10 dL_does_138 (by decide) ?_
      refine pq_count (F := ct.1.2.1) C gL_does_X6_count dL_does_140 ⟨Nat.le_of_ble_eq_true rfl, Nat.le_of_ble_eq_true rfl⟩ ⟨Nat.le_of_ble_eq_true rfl, Nat.le_of_ble_eq_true rfl⟩ hx3.1 htt 10 ⟨by omega, by omega⟩ (pa_count10 (kp := js6.1)) (Nat.le_of_ble_eq_true rfl) ?_
      refine z_ishl C (z_p2 ct.1.2.1) dL_does_143 (z_shl1 (by omega)) ?_
      refine z_irem C dL_does_144 ⟨by omega, by omega⟩ ⟨by omega, by omega⟩ ?_
      refine z_icmp_ne C 161 dL_does_145 (by decide) ⟨by omega, by omega⟩ ⟨by omega, by omega⟩ (fun hc8 => absurd hc8 (by omega)) (fun hc8 => ?_)
      refine z_aload_n C 4 dL_does_148 rfl ?_
      refine pq_clock (F := (-5)) C gL_does_X6_clock dL_does_149 ⟨Nat.le_of_ble_eq_true rfl, Nat.le_of_ble_eq_true rfl⟩ ⟨Nat.le_of_ble_eq_true rfl, Nat.le_of_ble_eq_true rfl⟩ hx3.1 htt hjs6   (x_tcY (ct := z_take ct) rfl).1 (Nat.le_of_ble_eq_true rfl) ?_
      obtain ⟨js9, ejs9, hjs9⟩ : ∃ j : p_J, p_st js6 (z_take ct) (z_tcA (z_take ct)) = j ∧ p_ok j := ⟨_, rfl, p_st_ok hjs6 hx3.1 htt _⟩
      rw [ejs9]
      rw [(x_tcY (ct := z_take ct) rfl).2]
      refine z_bipush C (-5) dL_does_152 (by decide) ?_
      refine z_icmp_ne C 161 dL_does_154 (by decide) ⟨by omega, by omega⟩ ⟨by omega, by omega⟩ (fun hc10 => absurd hc10 (by omega)) (fun hc10 => ?_)
      refine z_iconst C 1 dL_does_157 ?_
      refine z_goto C 162 dL_does_158 (by decide) ?_
      exact z_zrete C hQ ((z_take ct), js9) rfl ⟨rfl, hx3, (by show (z_take ct).1.1 ≤ ct.1.1 + 70; omega), hjs9⟩ (Or.inr rfl) dL_does_162
  by_cases hc11 : x_lo v 16 = 0
  · refine z_tabI C 84 0 dL_does_28 hc11 (by decide) rfl (by decide) ?_
    exact br84
  by_cases hc12 : x_lo v 16 = 1
  · refine z_tabI C 84 1 dL_does_28 hc12 (by decide) rfl (by decide) ?_
    exact br84
  by_cases hc13 : x_lo v 16 = 2
  · refine z_tabI C 84 2 dL_does_28 hc13 (by decide) rfl (by decide) ?_
    exact br84
  by_cases hc14 : x_lo v 16 = 3
  · refine z_tabI C 84 3 dL_does_28 hc14 (by decide) rfl (by decide) ?_
    exact br84
  by_cases hc15 : x_lo v 16 = 4
  · refine z_tabI C 84 4 dL_does_28 hc15 (by decide) rfl (by decide) ?_
    exact br84
  have br163 : z_V p l e { frames := 6, cells := 0, slots := 0, locals := 155 } s m args below meth c D A 15 0 0 Q (pw cI cZ cO g ct J ++ []).flatten 163 [(3, .int (z_I (ct.2.1.1 + ct.2.2.2.2.2.2.2))), (2, .int (z_I (x_lo (x_sr v 4) 6))), (0, .ref (g 0)), (1, .int (z_I v))] [] := by
    refine z_iconst C 1 dL_does_163 ?_
    refine z_iload_n C 3 dL_does_164 rfl ?_
    refine z_bipush C 7 dL_does_165 (by decide) ?_
    refine z_ishr C (x_sr v 7) dL_does_167 (x_sr_eq _ _) ?_
    refine z_iload_n C 3 dL_does_168 rfl ?_
    refine z_bipush C 12 dL_does_169 (by decide) ?_
    refine z_ishr C (x_sr v 12) dL_does_171 (x_sr_eq _ _) ?_
    refine z_iconst C 3 dL_does_172 ?_
    refine z_iand C (x_an (x_sr v 12) 3) dL_does_173 (x_an_eq _ _) ?_
    refine z_if_ne C 182 dL_does_174 (by decide) ⟨by omega, by omega⟩ (fun hc17 => ?_) (fun hc17 => ?_)
    · skip
      refine z_bipush C 6 dL_does_182 (by decide) ?_
      refine z_callSi C [] ((pw cI cZ cO g ct J ++ []).flatten) [.int (z_I (x_sr v 7)), .int (z_I 6)] [.int (z_I 1)] (c_L_low l D (z_T cI cZ cO) (x_sr v 7) 6 (by omega)) gL_does_L_low rfl zd_L_low rfl ⟨Nat.le_of_ble_eq_true rfl, Nat.le_of_ble_eq_true rfl⟩ rfl rfl rfl rfl rfl (Nat.le_of_ble_eq_true rfl) ⟨Nat.le_of_ble_eq_true rfl, Nat.le_of_ble_eq_true rfl⟩ dL_does_184 ?_
      refine z_iadd C dL_does_187 ?_
      refine z_istore C [(6, .int (z_I (1 + (x_lo (x_sr v 7) 6)))), (3, .int (z_I (ct.2.1.1 + ct.2.2.2.2.2.2.2))), (2, .int (z_I (x_lo (x_sr v 4) 6))), (0, .ref (g 0)), (1, .int (z_I v))] dL_does_188 (by decide) rfl ?_
      by_cases hs : (x_lo (x_sr v 4) 6) < ct.1.2.1
      · skip
        refine z_aload_n C 3 dL_does_190 rfl ?_
        refine z_iload_n C 2 dL_does_191 rfl ?_
        refine z_iconst C 0 dL_does_192 ?_
        refine pq_of (F := ct.1.2.2.2.2.1 (x_lo (x_sr v 4) 6)) C gL_does_X6_of dL_does_193 ⟨Nat.le_of_ble_eq_true rfl, Nat.le_of_ble_eq_true rfl⟩ ⟨Nat.le_of_ble_eq_true rfl, Nat.le_of_ble_eq_true rfl⟩ hx.1 htt (x_lo (x_sr v 4) 6) 0 ⟨by omega, by omega⟩ ⟨by omega, by omega⟩ (pa_of0 (by omega)) (Nat.le_of_ble_eq_true rfl) ?_
        refine z_istore C [(7, .int (z_I (ct.1.2.2.2.2.1 (x_lo (x_sr v 4) 6)))), (6, .int (z_I (1 + (x_lo (x_sr v 7) 6)))), (3, .int (z_I (ct.2.1.1 + ct.2.2.2.2.2.2.2))), (2, .int (z_I (x_lo (x_sr v 4) 6))), (0, .ref (g 0)), (1, .int (z_I v))] dL_does_196 (by decide) rfl ?_
        obtain ⟨cd1, cd2, cd3, cd4⟩ := x_cdY (ct := ct) (k := (x_lo (x_sr v 4) 6)) (v := 1 + (x_lo (x_sr v 7) 6)) ⟨by omega, hs⟩ (by omega)
        have hx4 := x_cd hx htt (x_lo (x_sr v 4) 6) (1 + (x_lo (x_sr v 7) 6))
        have hdls := hx.1.1.2.2.2.1 (x_lo (x_sr v 4) 6) (by omega) (by omega)
        refine z_aload_n C 4 dL_does_198 rfl ?_
        refine z_iload_n C 3 dL_does_199 rfl ?_
        refine z_iload C 1 dL_does_200 rfl ?_
        refine pq_delay (F := ct.1.2.2.2.2.1 (x_lo (x_sr v 4) 6)) C gL_does_X6_delay dL_does_202 ⟨Nat.le_of_ble_eq_true rfl, Nat.le_of_ble_eq_true rfl⟩ ⟨Nat.le_of_ble_eq_true rfl, Nat.le_of_ble_eq_true rfl⟩ hx.1 htt hJ (x_lo (x_sr v 4) 6) (1 + (x_lo (x_sr v 7) 6)) ⟨by omega, by omega⟩ ⟨by omega, by omega⟩ cd1 (Nat.le_of_ble_eq_true rfl) ?_
        obtain ⟨js18, ejs18, hjs18⟩ : ∃ j : p_J, p_st J ct (z_cd ct (x_lo (x_sr v 4) 6) (1 + (x_lo (x_sr v 7) 6))).2 = j ∧ p_ok j := ⟨_, rfl, p_st_ok hJ hx.1 htt _⟩
        rw [ejs18]
        refine z_iload_n C 3 dL_does_205 rfl ?_
        refine z_aload_n C 4 dL_does_206 rfl ?_
        refine z_bipush C 10 dL_does_207 (by decide) ?_
        refine pq_count (F := ((z_cd ct (x_lo (x_sr v 4) 6) (1 + (x_lo (x_sr v 7) 6))).1).1.2.1) C gL_does_X6_count dL_does_209 ⟨Nat.le_of_ble_eq_true rfl, Nat.le_of_ble_eq_true rfl⟩ ⟨Nat.le_of_ble_eq_true rfl, Nat.le_of_ble_eq_true rfl⟩ hx4.1 (by show (z_cd ct (x_lo (x_sr v 4) 6) (1 + (x_lo (x_sr v 7) 6))).1.1.1 ≤ 9999; omega) 10 ⟨by omega, by omega⟩ (pa_count10 (kp := js18.1)) (Nat.le_of_ble_eq_true rfl) ?_
        refine z_icmp_ge C 220 dL_does_212 (by decide) ⟨by omega, by omega⟩ ⟨by omega, by omega⟩ (fun hc19 => absurd hc19 (by omega)) (fun hc19 => ?_)
        refine z_iload C 0 dL_does_215 rfl ?_
        refine z_goto C 221 dL_does_217 (by decide) ?_
        refine z_icmp_ne C 249 dL_does_221 (by decide) ⟨by omega, by omega⟩ ⟨by omega, by omega⟩ (fun hc20 => absurd hc20 (by omega)) (fun hc20 => ?_)
        refine z_iload_n C 3 dL_does_224 rfl ?_
        refine z_aload_n C 4 dL_does_225 rfl ?_
        refine z_bipush C 10 dL_does_226 (by decide) ?_
        refine pq_count (F := ((z_cd ct (x_lo (x_sr v 4) 6) (1 + (x_lo (x_sr v 7) 6))).1).1.2.1) C gL_does_X6_count dL_does_228 ⟨Nat.le_of_ble_eq_true rfl, Nat.le_of_ble_eq_true rfl⟩ ⟨Nat.le_of_ble_eq_true rfl, Nat.le_of_ble_eq_true rfl⟩ hx4.1 (by show (z_cd ct (x_lo (x_sr v 4) 6) (1 + (x_lo (x_sr v 7) 6))).1.1.1 ≤ 9999; omega) 10 ⟨by omega, by omega⟩ (pa_count10 (kp := js18.1)) (Nat.le_of_ble_eq_true rfl) ?_
        refine z_icmp_ge C 245 dL_does_231 (by decide) ⟨by omega, by omega⟩ ⟨by omega, by omega⟩ (fun hc21 => absurd hc21 (by omega)) (fun hc21 => ?_)
        refine z_aload_n C 4 dL_does_234 rfl ?_
        refine z_iload_n C 3 dL_does_235 rfl ?_
        refine z_iconst C 0 dL_does_236 ?_
        refine pq_of (F := ((z_cd ct (x_lo (x_sr v 4) 6) (1 + (x_lo (x_sr v 7) 6))).1).1.2.2.2.2.1 (x_lo (x_sr v 4) 6)) C gL_does_X6_of dL_does_237 ⟨Nat.le_of_ble_eq_true rfl, Nat.le_of_ble_eq_true rfl⟩ ⟨Nat.le_of_ble_eq_true rfl, Nat.le_of_ble_eq_true rfl⟩ hx4.1 (by show (z_cd ct (x_lo (x_sr v 4) 6) (1 + (x_lo (x_sr v 7) 6))).1.1.1 ≤ 9999; omega) (x_lo (x_sr v 4) 6) 0 ⟨by omega, by omega⟩ ⟨by omega, by omega⟩ (pa_of0 (by omega)) (Nat.le_of_ble_eq_true rfl) ?_
        refine z_iload C 1 dL_does_240 rfl ?_
        refine z_icmp_ne C 249 dL_does_242 (by decide) ⟨by omega, by omega⟩ ⟨by omega, by omega⟩ (fun hc22 => absurd hc22 (by omega)) (fun hc22 => ?_)
        refine z_iconst C 1 dL_does_245 ?_
        refine z_goto C 250 dL_does_246 (by decide) ?_
        exact z_zrete C hQ ((z_cd ct (x_lo (x_sr v 4) 6) (1 + (x_lo (x_sr v 7) 6))).1, js18) rfl ⟨rfl, hx4, (by show ((z_cd ct (x_lo (x_sr v 4) 6) (1 + (x_lo (x_sr v 7) 6))).1).1.1 ≤ ct.1.1 + 70; omega), hjs18⟩ (Or.inr rfl) dL_does_250
      · skip
        refine z_aload_n C 3 dL_does_190 rfl ?_
        refine z_iload_n C 2 dL_does_191 rfl ?_
        refine z_iconst C 0 dL_does_192 ?_
        refine pq_of (F := (-1)) C gL_does_X6_of dL_does_193 ⟨Nat.le_of_ble_eq_true rfl, Nat.le_of_ble_eq_true rfl⟩ ⟨Nat.le_of_ble_eq_true rfl, Nat.le_of_ble_eq_true rfl⟩ hx.1 htt (x_lo (x_sr v 4) 6) 0 ⟨by omega, by omega⟩ ⟨by omega, by omega⟩ (pa_ofN (by omega)) (Nat.le_of_ble_eq_true rfl) ?_
        refine z_istore C [(7, .int (z_I (-1))), (6, .int (z_I (1 + (x_lo (x_sr v 7) 6)))), (3, .int (z_I (ct.2.1.1 + ct.2.2.2.2.2.2.2))), (2, .int (z_I (x_lo (x_sr v 4) 6))), (0, .ref (g 0)), (1, .int (z_I v))] dL_does_196 (by decide) rfl ?_
        refine z_aload_n C 4 dL_does_198 rfl ?_
        refine z_iload_n C 3 dL_does_199 rfl ?_
        refine z_iload C 1 dL_does_200 rfl ?_
        refine pq_delay (F := (-1)) C gL_does_X6_delay dL_does_202 ⟨Nat.le_of_ble_eq_true rfl, Nat.le_of_ble_eq_true rfl⟩ ⟨Nat.le_of_ble_eq_true rfl, Nat.le_of_ble_eq_true rfl⟩ hx.1 htt hJ (x_lo (x_sr v 4) 6) (1 + (x_lo (x_sr v 7) 6)) ⟨by omega, by omega⟩ ⟨by omega, by omega⟩ (x_cdN (by omega)).1 (Nat.le_of_ble_eq_true rfl) ?_
        obtain ⟨js23, ejs23, hjs23⟩ : ∃ j : p_J, p_st J ct (z_cd ct (x_lo (x_sr v 4) 6) (1 + (x_lo (x_sr v 7) 6))).2 = j ∧ p_ok j := ⟨_, rfl, p_st_ok hJ hx.1 htt _⟩
        rw [ejs23]
        rw [(x_cdN (ct := ct) (k := (x_lo (x_sr v 4) 6)) (v := 1 + (x_lo (x_sr v 7) 6)) (by omega)).2]
        refine z_iload_n C 3 dL_does_205 rfl ?_
        refine z_aload_n C 4 dL_does_206 rfl ?_
        refine z_bipush C 10 dL_does_207 (by decide) ?_
        refine pq_count (F := ct.1.2.1) C gL_does_X6_count dL_does_209 ⟨Nat.le_of_ble_eq_true rfl, Nat.le_of_ble_eq_true rfl⟩ ⟨Nat.le_of_ble_eq_true rfl, Nat.le_of_ble_eq_true rfl⟩ hx.1 htt 10 ⟨by omega, by omega⟩ (pa_count10 (kp := js23.1)) (Nat.le_of_ble_eq_true rfl) ?_
        refine z_icmp_ge C 220 dL_does_212 (by decide) ⟨by omega, by omega⟩ ⟨by omega, by omega⟩ (fun hc24 => ?_) (fun hc24 => absurd hc24 (by omega))
        refine z_iconst C (-1) dL_does_220 ?_
        refine z_icmp_ne C 249 dL_does_221 (by decide) ⟨by omega, by omega⟩ ⟨by omega, by omega⟩ (fun hc25 => absurd hc25 (by omega)) (fun hc25 => ?_)
        refine z_iload_n C 3 dL_does_224 rfl ?_
        refine z_aload_n C 4 dL_does_225 rfl ?_
        refine z_bipush C 10 dL_does_226 (by decide) ?_
        refine pq_count (F := ct.1.2.1) C gL_does_X6_count dL_does_228 ⟨Nat.le_of_ble_eq_true rfl, Nat.le_of_ble_eq_true rfl⟩ ⟨Nat.le_of_ble_eq_true rfl, Nat.le_of_ble_eq_true rfl⟩ hx.1 htt 10 ⟨by omega, by omega⟩ (pa_count10 (kp := js23.1)) (Nat.le_of_ble_eq_true rfl) ?_
        refine z_icmp_ge C 245 dL_does_231 (by decide) ⟨by omega, by omega⟩ ⟨by omega, by omega⟩ (fun hc26 => ?_) (fun hc26 => absurd hc26 (by omega))
        refine z_iconst C 1 dL_does_245 ?_
        refine z_goto C 250 dL_does_246 (by decide) ?_
        exact z_zrete C hQ (ct, js23) rfl ⟨rfl, hx, (by show ct.1.1 ≤ ct.1.1 + 70; omega), hjs23⟩ (Or.inr rfl) dL_does_250
    · skip
      refine z_bipush C 20 dL_does_177 (by decide) ?_
      refine z_goto C 184 dL_does_179 (by decide) ?_
      refine z_callSi C [] ((pw cI cZ cO g ct J ++ []).flatten) [.int (z_I (x_sr v 7)), .int (z_I 20)] [.int (z_I 1)] (c_L_low l D (z_T cI cZ cO) (x_sr v 7) 20 (by omega)) gL_does_L_low rfl zd_L_low rfl ⟨Nat.le_of_ble_eq_true rfl, Nat.le_of_ble_eq_true rfl⟩ rfl rfl rfl rfl rfl (Nat.le_of_ble_eq_true rfl) ⟨Nat.le_of_ble_eq_true rfl, Nat.le_of_ble_eq_true rfl⟩ dL_does_184 ?_
      refine z_iadd C dL_does_187 ?_
      refine z_istore C [(6, .int (z_I (1 + (x_lo (x_sr v 7) 20)))), (3, .int (z_I (ct.2.1.1 + ct.2.2.2.2.2.2.2))), (2, .int (z_I (x_lo (x_sr v 4) 6))), (0, .ref (g 0)), (1, .int (z_I v))] dL_does_188 (by decide) rfl ?_
      by_cases hs : (x_lo (x_sr v 4) 6) < ct.1.2.1
      · skip
        refine z_aload_n C 3 dL_does_190 rfl ?_
        refine z_iload_n C 2 dL_does_191 rfl ?_
        refine z_iconst C 0 dL_does_192 ?_
        refine pq_of (F := ct.1.2.2.2.2.1 (x_lo (x_sr v 4) 6)) C gL_does_X6_of dL_does_193 ⟨Nat.le_of_ble_eq_true rfl, Nat.le_of_ble_eq_true rfl⟩ ⟨Nat.le_of_ble_eq_true rfl, Nat.le_of_ble_eq_true rfl⟩ hx.1 htt (x_lo (x_sr v 4) 6) 0 ⟨by omega, by omega⟩ ⟨by omega, by omega⟩ (pa_of0 (by omega)) (Nat.le_of_ble_eq_true rfl) ?_
        refine z_istore C [(7, .int (z_I (ct.1.2.2.2.2.1 (x_lo (x_sr v 4) 6)))), (6, .int (z_I (1 + (x_lo (x_sr v 7) 20)))), (3, .int (z_I (ct.2.1.1 + ct.2.2.2.2.2.2.2))), (2, .int (z_I (x_lo (x_sr v 4) 6))), (0, .ref (g 0)), (1, .int (z_I v))] dL_does_196 (by decide) rfl ?_
        obtain ⟨cd1, cd2, cd3, cd4⟩ := x_cdY (ct := ct) (k := (x_lo (x_sr v 4) 6)) (v := 1 + (x_lo (x_sr v 7) 20)) ⟨by omega, hs⟩ (by omega)
        have hx4 := x_cd hx htt (x_lo (x_sr v 4) 6) (1 + (x_lo (x_sr v 7) 20))
        have hdls := hx.1.1.2.2.2.1 (x_lo (x_sr v 4) 6) (by omega) (by omega)
        refine z_aload_n C 4 dL_does_198 rfl ?_
        refine z_iload_n C 3 dL_does_199 rfl ?_
        refine z_iload C 1 dL_does_200 rfl ?_
        refine pq_delay (F := ct.1.2.2.2.2.1 (x_lo (x_sr v 4) 6)) C gL_does_X6_delay dL_does_202 ⟨Nat.le_of_ble_eq_true rfl, Nat.le_of_ble_eq_true rfl⟩ ⟨Nat.le_of_ble_eq_true rfl, Nat.le_of_ble_eq_true rfl⟩ hx.1 htt hJ (x_lo (x_sr v 4) 6) (1 + (x_lo (x_sr v 7) 20)) ⟨by omega, by omega⟩ ⟨by omega, by omega⟩ cd1 (Nat.le_of_ble_eq_true rfl) ?_
        obtain ⟨js27, ejs27, hjs27⟩ : ∃ j : p_J, p_st J ct (z_cd ct (x_lo (x_sr v 4) 6) (1 + (x_lo (x_sr v 7) 20))).2 = j ∧ p_ok j := ⟨_, rfl, p_st_ok hJ hx.1 htt _⟩
        rw [ejs27]
        refine z_iload_n C 3 dL_does_205 rfl ?_
        refine z_aload_n C 4 dL_does_206 rfl ?_
        refine z_bipush C 10 dL_does_207 (by decide) ?_
        refine pq_count (F := ((z_cd ct (x_lo (x_sr v 4) 6) (1 + (x_lo (x_sr v 7) 20))).1).1.2.1) C gL_does_X6_count dL_does_209 ⟨Nat.le_of_ble_eq_true rfl, Nat.le_of_ble_eq_true rfl⟩ ⟨Nat.le_of_ble_eq_true rfl, Nat.le_of_ble_eq_true rfl⟩ hx4.1 (by show (z_cd ct (x_lo (x_sr v 4) 6) (1 + (x_lo (x_sr v 7) 20))).1.1.1 ≤ 9999; omega) 10 ⟨by omega, by omega⟩ (pa_count10 (kp := js27.1)) (Nat.le_of_ble_eq_true rfl) ?_
        refine z_icmp_ge C 220 dL_does_212 (by decide) ⟨by omega, by omega⟩ ⟨by omega, by omega⟩ (fun hc28 => absurd hc28 (by omega)) (fun hc28 => ?_)
        refine z_iload C 0 dL_does_215 rfl ?_
        refine z_goto C 221 dL_does_217 (by decide) ?_
        refine z_icmp_ne C 249 dL_does_221 (by decide) ⟨by omega, by omega⟩ ⟨by omega, by omega⟩ (fun hc29 => absurd hc29 (by omega)) (fun hc29 => ?_)
        refine z_iload_n C 3 dL_does_224 rfl ?_
        refine z_aload_n C 4 dL_does_225 rfl ?_
        refine z_bipush C 10 dL_does_226 (by decide) ?_
        refine pq_count (F := ((z_cd ct (x_lo (x_sr v 4) 6) (1 + (x_lo (x_sr v 7) 20))).1).1.2.1) C gL_does_X6_count dL_does_228 ⟨Nat.le_of_ble_eq_true rfl, Nat.le_of_ble_eq_true rfl⟩ ⟨Nat.le_of_ble_eq_true rfl, Nat.le_of_ble_eq_true rfl⟩ hx4.1 (by show (z_cd ct (x_lo (x_sr v 4) 6) (1 + (x_lo (x_sr v 7) 20))).1.1.1 ≤ 9999; omega) 10 ⟨by omega, by omega⟩ (pa_count10 (kp := js27.1)) (Nat.le_of_ble_eq_true rfl) ?_
        refine z_icmp_ge C 245 dL_does_231 (by decide) ⟨by omega, by omega⟩ ⟨by omega, by omega⟩ (fun hc30 => absurd hc30 (by omega)) (fun hc30 => ?_)
        refine z_aload_n C 4 dL_does_234 rfl ?_
        refine z_iload_n C 3 dL_does_235 rfl ?_
        refine z_iconst C 0 dL_does_236 ?_
        refine pq_of (F := ((z_cd ct (x_lo (x_sr v 4) 6) (1 + (x_lo (x_sr v 7) 20))).1).1.2.2.2.2.1 (x_lo (x_sr v 4) 6)) C gL_does_X6_of dL_does_237 ⟨Nat.le_of_ble_eq_true rfl, Nat.le_of_ble_eq_true rfl⟩ ⟨Nat.le_of_ble_eq_true rfl, Nat.le_of_ble_eq_true rfl⟩ hx4.1 (by show (z_cd ct (x_lo (x_sr v 4) 6) (1 + (x_lo (x_sr v 7) 20))).1.1.1 ≤ 9999; omega) (x_lo (x_sr v 4) 6) 0 ⟨by omega, by omega⟩ ⟨by omega, by omega⟩ (pa_of0 (by omega)) (Nat.le_of_ble_eq_true rfl) ?_
        refine z_iload C 1 dL_does_240 rfl ?_
        refine z_icmp_ne C 249 dL_does_242 (by decide) ⟨by omega, by omega⟩ ⟨by omega, by omega⟩ (fun hc31 => absurd hc31 (by omega)) (fun hc31 => ?_)
        refine z_iconst C 1 dL_does_245 ?_
        refine z_goto C 250 dL_does_246 (by decide) ?_
        exact z_zrete C hQ ((z_cd ct (x_lo (x_sr v 4) 6) (1 + (x_lo (x_sr v 7) 20))).1, js27) rfl ⟨rfl, hx4, (by show ((z_cd ct (x_lo (x_sr v 4) 6) (1 + (x_lo (x_sr v 7) 20))).1).1.1 ≤ ct.1.1 + 70; omega), hjs27⟩ (Or.inr rfl) dL_does_250
      · skip
        refine z_aload_n C 3 dL_does_190 rfl ?_
        refine z_iload_n C 2 dL_does_191 rfl ?_
        refine z_iconst C 0 dL_does_192 ?_
        refine pq_of (F := (-1)) C gL_does_X6_of dL_does_193 ⟨Nat.le_of_ble_eq_true rfl, Nat.le_of_ble_eq_true rfl⟩ ⟨Nat.le_of_ble_eq_true rfl, Nat.le_of_ble_eq_true rfl⟩ hx.1 htt (x_lo (x_sr v 4) 6) 0 ⟨by omega, by omega⟩ ⟨by omega, by omega⟩ (pa_ofN (by omega)) (Nat.le_of_ble_eq_true rfl) ?_
        refine z_istore C [(7, .int (z_I (-1))), (6, .int (z_I (1 + (x_lo (x_sr v 7) 20)))), (3, .int (z_I (ct.2.1.1 + ct.2.2.2.2.2.2.2))), (2, .int (z_I (x_lo (x_sr v 4) 6))), (0, .ref (g 0)), (1, .int (z_I v))] dL_does_196 (by decide) rfl ?_
        refine z_aload_n C 4 dL_does_198 rfl ?_
        refine z_iload_n C 3 dL_does_199 rfl ?_
        refine z_iload C 1 dL_does_200 rfl ?_
        refine pq_delay (F := (-1)) C gL_does_X6_delay dL_does_202 ⟨Nat.le_of_ble_eq_true rfl, Nat.le_of_ble_eq_true rfl⟩ ⟨Nat.le_of_ble_eq_true rfl, Nat.le_of_ble_eq_true rfl⟩ hx.1 htt hJ (x_lo (x_sr v 4) 6) (1 + (x_lo (x_sr v 7) 20)) ⟨by omega, by omega⟩ ⟨by omega, by omega⟩ (x_cdN (by omega)).1 (Nat.le_of_ble_eq_true rfl) ?_
        obtain ⟨js32, ejs32, hjs32⟩ : ∃ j : p_J, p_st J ct (z_cd ct (x_lo (x_sr v 4) 6) (1 + (x_lo (x_sr v 7) 20))).2 = j ∧ p_ok j := ⟨_, rfl, p_st_ok hJ hx.1 htt _⟩
        rw [ejs32]
        rw [(x_cdN (ct := ct) (k := (x_lo (x_sr v 4) 6)) (v := 1 + (x_lo (x_sr v 7) 20)) (by omega)).2]
        refine z_iload_n C 3 dL_does_205 rfl ?_
        refine z_aload_n C 4 dL_does_206 rfl ?_
        refine z_bipush C 10 dL_does_207 (by decide) ?_
        refine pq_count (F := ct.1.2.1) C gL_does_X6_count dL_does_209 ⟨Nat.le_of_ble_eq_true rfl, Nat.le_of_ble_eq_true rfl⟩ ⟨Nat.le_of_ble_eq_true rfl, Nat.le_of_ble_eq_true rfl⟩ hx.1 htt 10 ⟨by omega, by omega⟩ (pa_count10 (kp := js32.1)) (Nat.le_of_ble_eq_true rfl) ?_
        refine z_icmp_ge C 220 dL_does_212 (by decide) ⟨by omega, by omega⟩ ⟨by omega, by omega⟩ (fun hc33 => ?_) (fun hc33 => absurd hc33 (by omega))
        refine z_iconst C (-1) dL_does_220 ?_
        refine z_icmp_ne C 249 dL_does_221 (by decide) ⟨by omega, by omega⟩ ⟨by omega, by omega⟩ (fun hc34 => absurd hc34 (by omega)) (fun hc34 => ?_)
        refine z_iload_n C 3 dL_does_224 rfl ?_
        refine z_aload_n C 4 dL_does_225 rfl ?_
        refine z_bipush C 10 dL_does_226 (by decide) ?_
        refine pq_count (F := ct.1.2.1) C gL_does_X6_count dL_does_228 ⟨Nat.le_of_ble_eq_true rfl, Nat.le_of_ble_eq_true rfl⟩ ⟨Nat.le_of_ble_eq_true rfl, Nat.le_of_ble_eq_true rfl⟩ hx.1 htt 10 ⟨by omega, by omega⟩ (pa_count10 (kp := js32.1)) (Nat.le_of_ble_eq_true rfl) ?_
        refine z_icmp_ge C 245 dL_does_231 (by decide) ⟨by omega, by omega⟩ ⟨by omega, by omega⟩ (fun hc35 => ?_) (fun hc35 => absurd hc35 (by omega))
        refine z_iconst C 1 dL_does_245 ?_
        refine z_goto C 250 dL_does_246 (by decide) ?_
        exact z_zrete C hQ (ct, js32) rfl ⟨rfl, hx, (by show ct.1.1 ≤ ct.1.1 + 70; omega), hjs32⟩ (Or.inr rfl) dL_does_250
  by_cases hc36 : x_lo v 16 = 5
  · refine z_tabI C 163 5 dL_does_28 hc36 (by decide) rfl (by decide) ?_
    exact br163
  have br251 : z_V p l e { frames := 6, cells := 0, slots := 0, locals := 155 } s m args below meth c D A 15 0 0 Q (pw cI cZ cO g ct J ++ []).flatten 251 [(3, .int (z_I (ct.2.1.1 + ct.2.2.2.2.2.2.2))), (2, .int (z_I (x_lo (x_sr v 4) 6))), (0, .ref (g 0)), (1, .int (z_I v))] [] := by
    by_cases hr : 99 ≤ ct.2.1.1 + ct.2.2.2.2.2.2.2
    · skip
      refine z_aload_n C 2 dL_does_251 rfl ?_
      refine z_iconst C 1 dL_does_252 ?_
      refine pq_count (F := ct.1.2.2.1) C gL_does_X6_count dL_does_253 ⟨Nat.le_of_ble_eq_true rfl, Nat.le_of_ble_eq_true rfl⟩ ⟨Nat.le_of_ble_eq_true rfl, Nat.le_of_ble_eq_true rfl⟩ hx.1 htt 1 ⟨by omega, by omega⟩ (pa_count1 (kp := J.1)) (Nat.le_of_ble_eq_true rfl) ?_
      refine z_istore C [(8, .int (z_I ct.1.2.2.1)), (3, .int (z_I (ct.2.1.1 + ct.2.2.2.2.2.2.2))), (2, .int (z_I (x_lo (x_sr v 4) 6))), (0, .ref (g 0)), (1, .int (z_I v))] dL_does_256 (by decide) rfl ?_
      refine z_aload_n C 3 dL_does_258 rfl ?_
      refine pq_read (F := (-4)) C gL_does_X6_read dL_does_259 ⟨Nat.le_of_ble_eq_true rfl, Nat.le_of_ble_eq_true rfl⟩ ⟨Nat.le_of_ble_eq_true rfl, Nat.le_of_ble_eq_true rfl⟩ hx.1 htt hJ   (x_rgN hr).1 (Nat.le_of_ble_eq_true rfl) ?_
      obtain ⟨js38, ejs38, hjs38⟩ : ∃ j : p_J, p_st J ct (z_rg ct).2 = j ∧ p_ok j := ⟨_, rfl, p_st_ok hJ hx.1 htt _⟩
      rw [ejs38]
      rw [(x_rgN hr).2]
      refine z_istore C [(9, .int (z_I (-4))), (8, .int (z_I ct.1.2.2.1)), (3, .int (z_I (ct.2.1.1 + ct.2.2.2.2.2.2.2))), (2, .int (z_I (x_lo (x_sr v 4) 6))), (0, .ref (g 0)), (1, .int (z_I v))] dL_does_262 (by decide) rfl ?_
      refine z_iload_n C 2 dL_does_264 rfl ?_
      refine z_bipush C 99 dL_does_265 (by decide) ?_
      refine z_icmp_lt C 285 dL_does_267 (by decide) ⟨by omega, by omega⟩ ⟨by omega, by omega⟩ (fun hc39 => absurd hc39 (by omega)) (fun hc39 => ?_)
      refine z_iload C 0 dL_does_270 rfl ?_
      refine z_bipush C (-4) dL_does_272 (by decide) ?_
      refine z_icmp_ne C 281 dL_does_274 (by decide) ⟨by omega, by omega⟩ ⟨by omega, by omega⟩ (fun hc40 => absurd hc40 (by omega)) (fun hc40 => ?_)
      refine z_iconst C 1 dL_does_277 ?_
      refine z_goto C 369 dL_does_278 (by decide) ?_
      exact z_zrete C hQ (ct, js38) rfl ⟨rfl, hx, (by show ct.1.1 ≤ ct.1.1 + 70; omega), hjs38⟩ (Or.inr rfl) dL_does_369
    · skip
      obtain ⟨rg1, rg2, rg3, rg4, rg5, rg6, rg7, rg8⟩ := x_rgY hr
      have hx5 := x_rg hx htt
      have rt5 : (z_rg ct).1.1.1 = ct.1.1 := congrArg (fun w : z_Wv => w.1) rg2
      have ht5 : (z_rg ct).1.1.1 ≤ 9999 := by rw [rt5]; exact htt
      obtain ⟨t0e, st0e, p20e, sh0e, ow0e, ck0e, rn0e, lw0e, ho0e, lc0e, ld0e, rl0e, sn0e, lcte, owze⟩ := x_bas hx5
      have ei : (z_rg ct).1.2.1.1 - 1 = ct.2.1.1 := by omega
      rw [← ei] at rg5 rg6 rg7 rg8
      have hl3 : (if (z_rg ct).1.2.1.2.2.2.2 ((z_rg ct).1.2.1.1 - 1) = 0 then (0 : Int) else 1) = 0 := by rw [rg8]; rfl
      refine z_aload_n C 2 dL_does_251 rfl ?_
      refine z_iconst C 1 dL_does_252 ?_
      refine pq_count (F := ct.1.2.2.1) C gL_does_X6_count dL_does_253 ⟨Nat.le_of_ble_eq_true rfl, Nat.le_of_ble_eq_true rfl⟩ ⟨Nat.le_of_ble_eq_true rfl, Nat.le_of_ble_eq_true rfl⟩ hx.1 htt 1 ⟨by omega, by omega⟩ (pa_count1 (kp := J.1)) (Nat.le_of_ble_eq_true rfl) ?_
      refine z_istore C [(8, .int (z_I ct.1.2.2.1)), (3, .int (z_I (ct.2.1.1 + ct.2.2.2.2.2.2.2))), (2, .int (z_I (x_lo (x_sr v 4) 6))), (0, .ref (g 0)), (1, .int (z_I v))] dL_does_256 (by decide) rfl ?_
      refine z_aload_n C 3 dL_does_258 rfl ?_
      refine pq_read (F := ct.1.2.2.1) C gL_does_X6_read dL_does_259 ⟨Nat.le_of_ble_eq_true rfl, Nat.le_of_ble_eq_true rfl⟩ ⟨Nat.le_of_ble_eq_true rfl, Nat.le_of_ble_eq_true rfl⟩ hx.1 htt hJ   rg1 (Nat.le_of_ble_eq_true rfl) ?_
      obtain ⟨js41, ejs41, hjs41⟩ : ∃ j : p_J, p_st J ct (z_rg ct).2 = j ∧ p_ok j := ⟨_, rfl, p_st_ok hJ hx.1 htt _⟩
      rw [ejs41]
      refine z_istore C [(9, .int (z_I ct.1.2.2.1)), (8, .int (z_I ct.1.2.2.1)), (3, .int (z_I (ct.2.1.1 + ct.2.2.2.2.2.2.2))), (2, .int (z_I (x_lo (x_sr v 4) 6))), (0, .ref (g 0)), (1, .int (z_I v))] dL_does_262 (by decide) rfl ?_
      refine z_iload_n C 2 dL_does_264 rfl ?_
      refine z_bipush C 99 dL_does_265 (by decide) ?_
      refine z_icmp_lt C 285 dL_does_267 (by decide) ⟨by omega, by omega⟩ ⟨by omega, by omega⟩ (fun hc42 => ?_) (fun hc42 => absurd hc42 (by omega))
      refine z_iload C 0 dL_does_285 rfl ?_
      refine z_iload C 1 dL_does_287 rfl ?_
      refine z_icmp_ne C 368 dL_does_289 (by decide) ⟨by omega, by omega⟩ ⟨by omega, by omega⟩ (fun hc43 => absurd hc43 (by omega)) (fun hc43 => ?_)
      refine z_aload_n C 4 dL_does_292 rfl ?_
      refine z_aload_n C 4 dL_does_293 rfl ?_
      refine z_iconst C 4 dL_does_294 ?_
      refine pq_count (F := ((z_rg ct).1).2.1.1) C gL_does_X6_count dL_does_295 ⟨Nat.le_of_ble_eq_true rfl, Nat.le_of_ble_eq_true rfl⟩ ⟨Nat.le_of_ble_eq_true rfl, Nat.le_of_ble_eq_true rfl⟩ hx5.1 ht5 4 ⟨by omega, by omega⟩ (pa_count4 (kp := js41.1)) (Nat.le_of_ble_eq_true rfl) ?_
      refine z_iconst C 1 dL_does_298 ?_
      refine z_isub C dL_does_299 ?_
      refine z_iconst C 0 dL_does_300 ?_
      refine pq_reading (F := ((z_rg ct).1).2.1.2.1 ((((z_rg ct).1).2.1.1) - 1)) C gL_does_X6_reading dL_does_301 ⟨Nat.le_of_ble_eq_true rfl, Nat.le_of_ble_eq_true rfl⟩ ⟨Nat.le_of_ble_eq_true rfl, Nat.le_of_ble_eq_true rfl⟩ hx5.1 ht5 ((((z_rg ct).1).2.1.1) - 1) 0 ⟨by omega, by omega⟩ ⟨by omega, by omega⟩ (pa_reading0 (by omega)) (Nat.le_of_ble_eq_true rfl) ?_
      refine z_iload C 1 dL_does_304 rfl ?_
      refine z_icmp_ne C 368 dL_does_306 (by decide) ⟨by omega, by omega⟩ ⟨by omega, by omega⟩ (fun hc44 => absurd hc44 (by omega)) (fun hc44 => ?_)
      refine z_aload_n C 4 dL_does_309 rfl ?_
      refine z_aload_n C 4 dL_does_310 rfl ?_
      refine z_iconst C 4 dL_does_311 ?_
      refine pq_count (F := ((z_rg ct).1).2.1.1) C gL_does_X6_count dL_does_312 ⟨Nat.le_of_ble_eq_true rfl, Nat.le_of_ble_eq_true rfl⟩ ⟨Nat.le_of_ble_eq_true rfl, Nat.le_of_ble_eq_true rfl⟩ hx5.1 ht5 4 ⟨by omega, by omega⟩ (pa_count4 (kp := js41.1)) (Nat.le_of_ble_eq_true rfl) ?_
      refine z_iconst C 1 dL_does_315 ?_
      refine z_isub C dL_does_316 ?_
      refine z_iconst C 1 dL_does_317 ?_
      refine pq_reading (F := ((z_rg ct).1).2.1.2.2.1 ((((z_rg ct).1).2.1.1) - 1)) C gL_does_X6_reading dL_does_318 ⟨Nat.le_of_ble_eq_true rfl, Nat.le_of_ble_eq_true rfl⟩ ⟨Nat.le_of_ble_eq_true rfl, Nat.le_of_ble_eq_true rfl⟩ hx5.1 ht5 ((((z_rg ct).1).2.1.1) - 1) 1 ⟨by omega, by omega⟩ ⟨by omega, by omega⟩ (pa_reading1 (by omega)) (Nat.le_of_ble_eq_true rfl) ?_
      refine z_aload_n C 4 dL_does_321 rfl ?_
      refine z_iconst C 0 dL_does_322 ?_
      refine pq_count (F := ((z_rg ct).1).1.1) C gL_does_X6_count dL_does_323 ⟨Nat.le_of_ble_eq_true rfl, Nat.le_of_ble_eq_true rfl⟩ ⟨Nat.le_of_ble_eq_true rfl, Nat.le_of_ble_eq_true rfl⟩ hx5.1 ht5 0 ⟨by omega, by omega⟩ (pa_count0 (kp := js41.1)) (Nat.le_of_ble_eq_true rfl) ?_
      refine z_icmp_ne C 368 dL_does_326 (by decide) ⟨by omega, by omega⟩ ⟨by omega, by omega⟩ (fun hc45 => absurd hc45 (by omega)) (fun hc45 => ?_)
      refine z_aload_n C 4 dL_does_329 rfl ?_
      refine z_aload_n C 4 dL_does_330 rfl ?_
      refine z_iconst C 4 dL_does_331 ?_
      refine pq_count (F := ((z_rg ct).1).2.1.1) C gL_does_X6_count dL_does_332 ⟨Nat.le_of_ble_eq_true rfl, Nat.le_of_ble_eq_true rfl⟩ ⟨Nat.le_of_ble_eq_true rfl, Nat.le_of_ble_eq_true rfl⟩ hx5.1 ht5 4 ⟨by omega, by omega⟩ (pa_count4 (kp := js41.1)) (Nat.le_of_ble_eq_true rfl) ?_
      refine z_iconst C 1 dL_does_335 ?_
      refine z_isub C dL_does_336 ?_
      refine z_iconst C 2 dL_does_337 ?_
      refine pq_reading (F := ((z_rg ct).1).2.1.2.2.2.1 ((((z_rg ct).1).2.1.1) - 1)) C gL_does_X6_reading dL_does_338 ⟨Nat.le_of_ble_eq_true rfl, Nat.le_of_ble_eq_true rfl⟩ ⟨Nat.le_of_ble_eq_true rfl, Nat.le_of_ble_eq_true rfl⟩ hx5.1 ht5 ((((z_rg ct).1).2.1.1) - 1) 2 ⟨by omega, by omega⟩ ⟨by omega, by omega⟩ (pa_reading2 (by omega)) (Nat.le_of_ble_eq_true rfl) ?_
      refine z_aload_n C 4 dL_does_341 rfl ?_
      refine z_iconst C 2 dL_does_342 ?_
      refine pq_count (F := ((z_rg ct).1).2.2.2.2.1) C gL_does_X6_count dL_does_343 ⟨Nat.le_of_ble_eq_true rfl, Nat.le_of_ble_eq_true rfl⟩ ⟨Nat.le_of_ble_eq_true rfl, Nat.le_of_ble_eq_true rfl⟩ hx5.1 ht5 2 ⟨by omega, by omega⟩ (pa_count2 (kp := js41.1)) (Nat.le_of_ble_eq_true rfl) ?_
      refine z_icmp_ne C 368 dL_does_346 (by decide) ⟨by omega, by omega⟩ ⟨by omega, by omega⟩ (fun hc46 => absurd hc46 (by omega)) (fun hc46 => ?_)
      refine z_aload_n C 4 dL_does_349 rfl ?_
      refine z_aload_n C 4 dL_does_350 rfl ?_
      refine z_iconst C 4 dL_does_351 ?_
      refine pq_count (F := ((z_rg ct).1).2.1.1) C gL_does_X6_count dL_does_352 ⟨Nat.le_of_ble_eq_true rfl, Nat.le_of_ble_eq_true rfl⟩ ⟨Nat.le_of_ble_eq_true rfl, Nat.le_of_ble_eq_true rfl⟩ hx5.1 ht5 4 ⟨by omega, by omega⟩ (pa_count4 (kp := js41.1)) (Nat.le_of_ble_eq_true rfl) ?_
      refine z_iconst C 1 dL_does_355 ?_
      refine z_isub C dL_does_356 ?_
      refine z_iconst C 3 dL_does_357 ?_
      refine pq_reading (F := if ((z_rg ct).1).2.1.2.2.2.2 ((((z_rg ct).1).2.1.1) - 1) = 0 then 0 else 1) C gL_does_X6_reading dL_does_358 ⟨Nat.le_of_ble_eq_true rfl, Nat.le_of_ble_eq_true rfl⟩ ⟨Nat.le_of_ble_eq_true rfl, Nat.le_of_ble_eq_true rfl⟩ hx5.1 ht5 ((((z_rg ct).1).2.1.1) - 1) 3 ⟨by omega, by omega⟩ ⟨by omega, by omega⟩ (pa_reading3 (by omega)) (Nat.le_of_ble_eq_true rfl) ?_
      refine z_if_ne C 368 dL_does_361 (by decide) ⟨by omega, by omega⟩ (fun hc47 => absurd hc47 (by omega)) (fun hc47 => ?_)
      refine z_iconst C 1 dL_does_364 ?_
      refine z_goto C 369 dL_does_365 (by decide) ?_
      exact z_zrete C hQ ((z_rg ct).1, js41) rfl ⟨rfl, hx5, (by show ((z_rg ct).1).1.1 ≤ ct.1.1 + 70; omega), hjs41⟩ (Or.inr rfl) dL_does_369
  by_cases hc48 : x_lo v 16 = 6
  · refine z_tabI C 251 6 dL_does_28 hc48 (by decide) rfl (by decide) ?_
    exact br251
  have br370 : z_V p l e { frames := 6, cells := 0, slots := 0, locals := 155 } s m args below meth c D A 15 0 0 Q (pw cI cZ cO g ct J ++ []).flatten 370 [(3, .int (z_I (ct.2.1.1 + ct.2.2.2.2.2.2.2))), (2, .int (z_I (x_lo (x_sr v 4) 6))), (0, .ref (g 0)), (1, .int (z_I v))] [] := by
    refine z_aload_n C 2 dL_does_370 rfl ?_
    refine z_bipush C 9 dL_does_371 (by decide) ?_
    refine pq_count (F := ct.2.2.2.2.2.2.2) C gL_does_X6_count dL_does_373 ⟨Nat.le_of_ble_eq_true rfl, Nat.le_of_ble_eq_true rfl⟩ ⟨Nat.le_of_ble_eq_true rfl, Nat.le_of_ble_eq_true rfl⟩ hx.1 htt 9 ⟨by omega, by omega⟩ (pa_count9 (kp := J.1)) (Nat.le_of_ble_eq_true rfl) ?_
    refine z_istore C [(10, .int (z_I ct.2.2.2.2.2.2.2)), (3, .int (z_I (ct.2.1.1 + ct.2.2.2.2.2.2.2))), (2, .int (z_I (x_lo (x_sr v 4) 6))), (0, .ref (g 0)), (1, .int (z_I v))] dL_does_376 (by decide) rfl ?_
    obtain ⟨sl1, sl2⟩ := x_slA (ct := ct) lw0
    have hx6 := x_sl hx htt
    have st6 : (z_sl ct).1.1.1 = ct.1.1 := congrArg (fun w : z_Wv => w.1) sl2
    obtain ⟨t0f, st0f, p20f, sh0f, ow0f, ck0f, rn0f, lw0f, ho0f, lc0f, ld0f, rl0f, sn0f, lctf, owzf⟩ := x_bas hx6
    have sl3 : -5 ≤ (z_sl ct).2 ∧ (z_sl ct).2 ≤ 1 := by rcases sl1 with ⟨-, q, -⟩ | ⟨-, -, q⟩ | ⟨-, -, q, -⟩ <;> omega
    refine z_aload_n C 3 dL_does_378 rfl ?_
    refine pq_latch (F := (z_sl ct).2) C gL_does_X6_latch dL_does_379 ⟨Nat.le_of_ble_eq_true rfl, Nat.le_of_ble_eq_true rfl⟩ ⟨Nat.le_of_ble_eq_true rfl, Nat.le_of_ble_eq_true rfl⟩ hx.1 htt hJ   rfl (Nat.le_of_ble_eq_true rfl) ?_
    obtain ⟨js50, ejs50, hjs50⟩ : ∃ j : p_J, p_st J ct (z_sl ct).2 = j ∧ p_ok j := ⟨_, rfl, p_st_ok hJ hx.1 htt _⟩
    rw [ejs50]
    refine z_iload C 0 dL_does_382 rfl ?_
    refine z_iconst C 1 dL_does_384 ?_
    refine z_icmp_ne C 393 dL_does_385 (by decide) ⟨by omega, by omega⟩ ⟨by omega, by omega⟩ (fun hc51 => ?_) (fun hc51 => ?_)
    · skip
      refine z_iload_n C 1 dL_does_393 rfl ?_
      refine z_bipush C 99 dL_does_394 (by decide) ?_
      refine z_icmp_lt C 404 dL_does_396 (by decide) ⟨by omega, by omega⟩ ⟨by omega, by omega⟩ (fun hc52 => ?_) (fun hc52 => ?_)
      · skip
        refine z_iconst C 1 dL_does_404 ?_
        refine z_icmp_ne C 428 dL_does_405 (by decide) ⟨by omega, by omega⟩ ⟨by omega, by omega⟩ (fun hc53 => absurd hc53 (by omega)) (fun hc53 => ?_)
        refine z_iload_n C 1 dL_does_408 rfl ?_
        refine z_bipush C 99 dL_does_409 (by decide) ?_
        refine z_icmp_ge C 424 dL_does_411 (by decide) ⟨by omega, by omega⟩ ⟨by omega, by omega⟩ (fun hc54 => ?_) (fun hc54 => ?_)
        · skip
          refine z_iconst C 1 dL_does_424 ?_
          refine z_goto C 429 dL_does_425 (by decide) ?_
          exact z_zrete C hQ ((z_sl ct).1, js50) rfl ⟨rfl, hx6, (by show ((z_sl ct).1).1.1 ≤ ct.1.1 + 70; omega), hjs50⟩ (Or.inr rfl) dL_does_429
        · skip
          refine z_aload_n C 3 dL_does_414 rfl ?_
          refine z_bipush C 9 dL_does_415 (by decide) ?_
          refine pq_count (F := ((z_sl ct).1).2.2.2.2.2.2.2) C gL_does_X6_count dL_does_417 ⟨Nat.le_of_ble_eq_true rfl, Nat.le_of_ble_eq_true rfl⟩ ⟨Nat.le_of_ble_eq_true rfl, Nat.le_of_ble_eq_true rfl⟩ hx6.1 (by show (z_sl ct).1.1.1 ≤ 9999; omega) 9 ⟨by omega, by omega⟩ (pa_count9 (kp := js50.1)) (Nat.le_of_ble_eq_true rfl) ?_
          refine z_iconst C 1 dL_does_420 ?_
          refine z_icmp_ne C 428 dL_does_421 (by decide) ⟨by omega, by omega⟩ ⟨by omega, by omega⟩ (fun hc55 => absurd hc55 (by omega)) (fun hc55 => ?_)
          refine z_iconst C 1 dL_does_424 ?_
          refine z_goto C 429 dL_does_425 (by decide) ?_
          exact z_zrete C hQ ((z_sl ct).1, js50) rfl ⟨rfl, hx6, (by show ((z_sl ct).1).1.1 ≤ ct.1.1 + 70; omega), hjs50⟩ (Or.inr rfl) dL_does_429
      · skip
        refine z_bipush C (-4) dL_does_399 (by decide) ?_
        refine z_goto C 405 dL_does_401 (by decide) ?_
        refine z_icmp_ne C 428 dL_does_405 (by decide) ⟨by omega, by omega⟩ ⟨by omega, by omega⟩ (fun hc56 => absurd hc56 (by omega)) (fun hc56 => ?_)
        refine z_iload_n C 1 dL_does_408 rfl ?_
        refine z_bipush C 99 dL_does_409 (by decide) ?_
        refine z_icmp_ge C 424 dL_does_411 (by decide) ⟨by omega, by omega⟩ ⟨by omega, by omega⟩ (fun hc57 => ?_) (fun hc57 => ?_)
        · skip
          refine z_iconst C 1 dL_does_424 ?_
          refine z_goto C 429 dL_does_425 (by decide) ?_
          exact z_zrete C hQ ((z_sl ct).1, js50) rfl ⟨rfl, hx6, (by show ((z_sl ct).1).1.1 ≤ ct.1.1 + 70; omega), hjs50⟩ (Or.inr rfl) dL_does_429
        · skip
          refine z_aload_n C 3 dL_does_414 rfl ?_
          refine z_bipush C 9 dL_does_415 (by decide) ?_
          refine pq_count (F := ((z_sl ct).1).2.2.2.2.2.2.2) C gL_does_X6_count dL_does_417 ⟨Nat.le_of_ble_eq_true rfl, Nat.le_of_ble_eq_true rfl⟩ ⟨Nat.le_of_ble_eq_true rfl, Nat.le_of_ble_eq_true rfl⟩ hx6.1 (by show (z_sl ct).1.1.1 ≤ 9999; omega) 9 ⟨by omega, by omega⟩ (pa_count9 (kp := js50.1)) (Nat.le_of_ble_eq_true rfl) ?_
          refine z_iconst C 1 dL_does_420 ?_
          refine z_icmp_ne C 428 dL_does_421 (by decide) ⟨by omega, by omega⟩ ⟨by omega, by omega⟩ (fun hc58 => absurd hc58 (by omega)) (fun hc58 => ?_)
          refine z_iconst C 1 dL_does_424 ?_
          refine z_goto C 429 dL_does_425 (by decide) ?_
          exact z_zrete C hQ ((z_sl ct).1, js50) rfl ⟨rfl, hx6, (by show ((z_sl ct).1).1.1 ≤ ct.1.1 + 70; omega), hjs50⟩ (Or.inr rfl) dL_does_429
    · skip
      refine z_bipush C (-5) dL_does_388 (by decide) ?_
      refine z_goto C 405 dL_does_390 (by decide) ?_
      refine z_icmp_ne C 428 dL_does_405 (by decide) ⟨by omega, by omega⟩ ⟨by omega, by omega⟩ (fun hc59 => absurd hc59 (by omega)) (fun hc59 => ?_)
      refine z_iload_n C 1 dL_does_408 rfl ?_
      refine z_bipush C 99 dL_does_409 (by decide) ?_
      refine z_icmp_ge C 424 dL_does_411 (by decide) ⟨by omega, by omega⟩ ⟨by omega, by omega⟩ (fun hc60 => ?_) (fun hc60 => ?_)
      · skip
        refine z_iconst C 1 dL_does_424 ?_
        refine z_goto C 429 dL_does_425 (by decide) ?_
        exact z_zrete C hQ ((z_sl ct).1, js50) rfl ⟨rfl, hx6, (by show ((z_sl ct).1).1.1 ≤ ct.1.1 + 70; omega), hjs50⟩ (Or.inr rfl) dL_does_429
      · skip
        refine z_aload_n C 3 dL_does_414 rfl ?_
        refine z_bipush C 9 dL_does_415 (by decide) ?_
        refine pq_count (F := ((z_sl ct).1).2.2.2.2.2.2.2) C gL_does_X6_count dL_does_417 ⟨Nat.le_of_ble_eq_true rfl, Nat.le_of_ble_eq_true rfl⟩ ⟨Nat.le_of_ble_eq_true rfl, Nat.le_of_ble_eq_true rfl⟩ hx6.1 (by show (z_sl ct).1.1.1 ≤ 9999; omega) 9 ⟨by omega, by omega⟩ (pa_count9 (kp := js50.1)) (Nat.le_of_ble_eq_true rfl) ?_
        refine z_iconst C 1 dL_does_420 ?_
        refine z_icmp_ne C 428 dL_does_421 (by decide) ⟨by omega, by omega⟩ ⟨by omega, by omega⟩ (fun hc61 => absurd hc61 (by omega)) (fun hc61 => ?_)
        refine z_iconst C 1 dL_does_424 ?_
        refine z_goto C 429 dL_does_425 (by decide) ?_
        exact z_zrete C hQ ((z_sl ct).1, js50) rfl ⟨rfl, hx6, (by show ((z_sl ct).1).1.1 ≤ ct.1.1 + 70; omega), hjs50⟩ (Or.inr rfl) dL_does_429
  by_cases hc62 : x_lo v 16 = 7
  · refine z_tabI C 370 7 dL_does_28 hc62 (by decide) rfl (by decide) ?_
    exact br370
  have br430 : z_V p l e { frames := 6, cells := 0, slots := 0, locals := 155 } s m args below meth c D A 15 0 0 Q (pw cI cZ cO g ct J ++ []).flatten 430 [(3, .int (z_I (ct.2.1.1 + ct.2.2.2.2.2.2.2))), (2, .int (z_I (x_lo (x_sr v 4) 6))), (0, .ref (g 0)), (1, .int (z_I v))] [] := by
    refine z_iload_n C 3 dL_does_430 rfl ?_
    refine z_iconst C 4 dL_does_431 ?_
    refine z_ishr C (x_sr v 4) dL_does_432 (x_sr_eq _ _) ?_
    refine z_bipush C 21 dL_does_433 (by decide) ?_
    refine z_callSi C [] ((pw cI cZ cO g ct J ++ []).flatten) [.int (z_I (x_sr v 4)), .int (z_I 21)] [] (c_L_low l D (z_T cI cZ cO) (x_sr v 4) 21 (by omega)) gL_does_L_low rfl zd_L_low rfl ⟨Nat.le_of_ble_eq_true rfl, Nat.le_of_ble_eq_true rfl⟩ rfl rfl rfl rfl rfl (Nat.le_of_ble_eq_true rfl) ⟨Nat.le_of_ble_eq_true rfl, Nat.le_of_ble_eq_true rfl⟩ dL_does_435 ?_
    refine z_istore C [(11, .int (z_I (x_lo (x_sr v 4) 21))), (3, .int (z_I (ct.2.1.1 + ct.2.2.2.2.2.2.2))), (2, .int (z_I (x_lo (x_sr v 4) 6))), (0, .ref (g 0)), (1, .int (z_I v))] dL_does_438 (by decide) rfl ?_
    refine z_aload_n C 3 dL_does_440 rfl ?_
    refine z_bipush C 11 dL_does_441 (by decide) ?_
    refine pq_count (F := ct.2.2.2.1) C gL_does_X6_count dL_does_443 ⟨Nat.le_of_ble_eq_true rfl, Nat.le_of_ble_eq_true rfl⟩ ⟨Nat.le_of_ble_eq_true rfl, Nat.le_of_ble_eq_true rfl⟩ hx.1 htt 11 ⟨by omega, by omega⟩ (pa_count11 (kp := J.1)) (Nat.le_of_ble_eq_true rfl) ?_
    refine z_istore C [(12, .int (z_I ct.2.2.2.1)), (11, .int (z_I (x_lo (x_sr v 4) 21))), (3, .int (z_I (ct.2.1.1 + ct.2.2.2.2.2.2.2))), (2, .int (z_I (x_lo (x_sr v 4) 6))), (0, .ref (g 0)), (1, .int (z_I v))] dL_does_446 (by decide) rfl ?_
    refine z_iload_n C 5 dL_does_448 rfl ?_
    refine z_bipush C 9 dL_does_449 (by decide) ?_
    refine z_ishr C (x_sr v 9) dL_does_451 (x_sr_eq _ _) ?_
    refine z_iconst C 1 dL_does_452 ?_
    refine z_iand C (x_an (x_sr v 9) 1) dL_does_453 (x_an_eq _ _) ?_
    refine z_if_eq C 480 dL_does_454 (by decide) ⟨by omega, by omega⟩ (fun hc64 => ?_) (fun hc64 => ?_)
    · skip
      refine z_iconst C 1 dL_does_480 ?_
      refine z_goto C 485 dL_does_481 (by decide) ?_
      exact z_zrete C hQ (ct, J) rfl ⟨rfl, hx, (by show ct.1.1 ≤ ct.1.1 + 70; omega), hJ⟩ (Or.inr rfl) dL_does_485
    · skip
      obtain ⟨ho1, ho2, ho3⟩ := x_holdA (ct := ct) (k := (x_lo (x_sr v 4) 21)) (by omega)
      have hx7 := x_hold hx htt (k := (x_lo (x_sr v 4) 21)) (by omega)
      have ht7 : (z_chg ct 1 (x_lo (x_sr v 4) 21)).1.1.1 = ct.1.1 := congrArg (fun w : z_Wv => w.1) ho3
      refine z_aload_n C 4 dL_does_457 rfl ?_
      refine z_iconst C 1 dL_does_458 ?_
      refine z_iload C 1 dL_does_459 rfl ?_
      refine pq_set (F := ct.2.2.2.1) C gL_does_X6_set dL_does_461 ⟨Nat.le_of_ble_eq_true rfl, Nat.le_of_ble_eq_true rfl⟩ ⟨Nat.le_of_ble_eq_true rfl, Nat.le_of_ble_eq_true rfl⟩ hx.1 htt hJ 1 (x_lo (x_sr v 4) 21) ⟨by omega, by omega⟩ ⟨by omega, by omega⟩ ho1 (Nat.le_of_ble_eq_true rfl) ?_
      obtain ⟨js65, ejs65, hjs65⟩ : ∃ j : p_J, p_st J ct (z_chg ct 1 (x_lo (x_sr v 4) 21)).2 = j ∧ p_ok j := ⟨_, rfl, p_st_ok hJ hx.1 htt _⟩
      rw [ejs65]
      refine z_iload C 0 dL_does_464 rfl ?_
      refine z_icmp_ne C 484 dL_does_466 (by decide) ⟨by omega, by omega⟩ ⟨by omega, by omega⟩ (fun hc66 => absurd hc66 (by omega)) (fun hc66 => ?_)
      refine z_aload_n C 4 dL_does_469 rfl ?_
      refine z_bipush C 11 dL_does_470 (by decide) ?_
      refine pq_count (F := ((z_chg ct 1 (x_lo (x_sr v 4) 21)).1).2.2.2.1) C gL_does_X6_count dL_does_472 ⟨Nat.le_of_ble_eq_true rfl, Nat.le_of_ble_eq_true rfl⟩ ⟨Nat.le_of_ble_eq_true rfl, Nat.le_of_ble_eq_true rfl⟩ hx7.1 (by show (z_chg ct 1 (x_lo (x_sr v 4) 21)).1.1.1 ≤ 9999; omega) 11 ⟨by omega, by omega⟩ (pa_count11 (kp := js65.1)) (Nat.le_of_ble_eq_true rfl) ?_
      refine z_iload C 1 dL_does_475 rfl ?_
      refine z_icmp_ne C 484 dL_does_477 (by decide) ⟨by omega, by omega⟩ ⟨by omega, by omega⟩ (fun hc67 => absurd hc67 (by omega)) (fun hc67 => ?_)
      refine z_iconst C 1 dL_does_480 ?_
      refine z_goto C 485 dL_does_481 (by decide) ?_
      exact z_zrete C hQ ((z_chg ct 1 (x_lo (x_sr v 4) 21)).1, js65) rfl ⟨rfl, hx7, (by show ((z_chg ct 1 (x_lo (x_sr v 4) 21)).1).1.1 ≤ ct.1.1 + 70; omega), hjs65⟩ (Or.inr rfl) dL_does_485
  by_cases hc68 : x_lo v 16 = 8
  · refine z_tabI C 430 8 dL_does_28 hc68 (by decide) rfl (by decide) ?_
    exact br430
  have br486 : z_V p l e { frames := 6, cells := 0, slots := 0, locals := 155 } s m args below meth c D A 15 0 0 Q (pw cI cZ cO g ct J ++ []).flatten 486 [(3, .int (z_I (ct.2.1.1 + ct.2.2.2.2.2.2.2))), (2, .int (z_I (x_lo (x_sr v 4) 6))), (0, .ref (g 0)), (1, .int (z_I v))] [] := by
    refine z_aload_n C 2 dL_does_486 rfl ?_
    refine z_bipush C 10 dL_does_487 (by decide) ?_
    refine pq_count (F := ct.1.2.1) C gL_does_X6_count dL_does_489 ⟨Nat.le_of_ble_eq_true rfl, Nat.le_of_ble_eq_true rfl⟩ ⟨Nat.le_of_ble_eq_true rfl, Nat.le_of_ble_eq_true rfl⟩ hx.1 htt 10 ⟨by omega, by omega⟩ (pa_count10 (kp := J.1)) (Nat.le_of_ble_eq_true rfl) ?_
    refine z_istore C [(13, .int (z_I ct.1.2.1)), (3, .int (z_I (ct.2.1.1 + ct.2.2.2.2.2.2.2))), (2, .int (z_I (x_lo (x_sr v 4) 6))), (0, .ref (g 0)), (1, .int (z_I v))] dL_does_492 (by decide) rfl ?_
    refine z_aload_n C 3 dL_does_494 rfl ?_
    refine z_iconst C 0 dL_does_495 ?_
    refine pq_count (F := ct.1.1) C gL_does_X6_count dL_does_496 ⟨Nat.le_of_ble_eq_true rfl, Nat.le_of_ble_eq_true rfl⟩ ⟨Nat.le_of_ble_eq_true rfl, Nat.le_of_ble_eq_true rfl⟩ hx.1 htt 0 ⟨by omega, by omega⟩ (pa_count0 (kp := J.1)) (Nat.le_of_ble_eq_true rfl) ?_
    refine z_istore C [(14, .int (z_I ct.1.1)), (13, .int (z_I ct.1.2.1)), (3, .int (z_I (ct.2.1.1 + ct.2.2.2.2.2.2.2))), (2, .int (z_I (x_lo (x_sr v 4) 6))), (0, .ref (g 0)), (1, .int (z_I v))] dL_does_499 (by decide) rfl ?_
    refine z_iload_n C 5 dL_does_501 rfl ?_
    refine z_iconst C 4 dL_does_502 ?_
    refine z_ishr C (x_sr v 4) dL_does_503 (x_sr_eq _ _) ?_
    refine z_bipush C 7 dL_does_504 (by decide) ?_
    refine z_iand C (x_an (x_sr v 4) 7) dL_does_506 (x_an_eq _ _) ?_
    refine z_if_ne C 591 dL_does_507 (by decide) ⟨by omega, by omega⟩ (fun hc70 => ?_) (fun hc70 => ?_)
    · skip
      refine z_iconst C 1 dL_does_591 ?_
      refine z_goto C 596 dL_does_592 (by decide) ?_
      exact z_zrete C hQ (ct, J) rfl ⟨rfl, hx, (by show ct.1.1 ≤ ct.1.1 + 70; omega), hJ⟩ (Or.inr rfl) dL_does_596
    · skip
      have sta := x_stA (ct := ct) (k := (1 + x_lo (x_sr v 7) 5)) (by omega)
      have hx8 := x_anew hx (k := (1 + x_lo (x_sr v 7) 5)) (by omega)
      have ht8 : (z_anew ct (1 + x_lo (x_sr v 7) 5)).1.1 = ct.1.1 := rfl
      refine z_aload_n C 4 dL_does_510 rfl ?_
      refine z_iconst C 0 dL_does_511 ?_
      refine z_iconst C 1 dL_does_512 ?_
      refine z_iload_n C 5 dL_does_513 rfl ?_
      refine z_bipush C 7 dL_does_514 (by decide) ?_
      refine z_ishr C (x_sr v 7) dL_does_516 (x_sr_eq _ _) ?_
      refine z_iconst C 5 dL_does_517 ?_
      refine z_callSi C [] ((pw cI cZ cO g ct J ++ []).flatten) [.int (z_I (x_sr v 7)), .int (z_I 5)] [.int (z_I 1), .int (z_I 0), .ref (g 0)] (c_L_low l D (z_T cI cZ cO) (x_sr v 7) 5 (by omega)) gL_does_L_low rfl zd_L_low rfl ⟨Nat.le_of_ble_eq_true rfl, Nat.le_of_ble_eq_true rfl⟩ rfl rfl rfl rfl rfl (Nat.le_of_ble_eq_true rfl) ⟨Nat.le_of_ble_eq_true rfl, Nat.le_of_ble_eq_true rfl⟩ dL_does_518 ?_
      refine z_iadd C dL_does_521 ?_
      refine pq_set (F := ct.1.2.1) C gL_does_X6_set dL_does_522 ⟨Nat.le_of_ble_eq_true rfl, Nat.le_of_ble_eq_true rfl⟩ ⟨Nat.le_of_ble_eq_true rfl, Nat.le_of_ble_eq_true rfl⟩ hx.1 htt hJ 0 (1 + (x_lo (x_sr v 7) 5)) ⟨by omega, by omega⟩ ⟨by omega, by omega⟩ (by rw [sta]) (Nat.le_of_ble_eq_true rfl) ?_
      obtain ⟨js71, ejs71, hjs71⟩ : ∃ j : p_J, p_st J ct (z_chg ct 0 (1 + (x_lo (x_sr v 7) 5))).2 = j ∧ p_ok j := ⟨_, rfl, p_st_ok hJ hx.1 htt _⟩
      rw [ejs71]
      have esa : (z_chg ct 0 (1 + x_lo (x_sr v 7) 5)).1 = z_anew ct (1 + x_lo (x_sr v 7) 5) := by rw [sta]
      rw [esa]
      refine z_iload C 1 dL_does_525 rfl ?_
      refine z_icmp_ne C 595 dL_does_527 (by decide) ⟨by omega, by omega⟩ ⟨by omega, by omega⟩ (fun hc72 => absurd hc72 (by omega)) (fun hc72 => ?_)
      refine z_aload_n C 4 dL_does_530 rfl ?_
      refine z_iconst C 1 dL_does_531 ?_
      refine pq_count (F := 0) C gL_does_X6_count dL_does_532 ⟨Nat.le_of_ble_eq_true rfl, Nat.le_of_ble_eq_true rfl⟩ ⟨Nat.le_of_ble_eq_true rfl, Nat.le_of_ble_eq_true rfl⟩ hx8.1 htt 1 ⟨by omega, by omega⟩ (pa_count1 (kp := js71.1)) (Nat.le_of_ble_eq_true rfl) ?_
      refine z_aload_n C 4 dL_does_535 rfl ?_
      refine z_iconst C 2 dL_does_536 ?_
      refine pq_count (F := 0) C gL_does_X6_count dL_does_537 ⟨Nat.le_of_ble_eq_true rfl, Nat.le_of_ble_eq_true rfl⟩ ⟨Nat.le_of_ble_eq_true rfl, Nat.le_of_ble_eq_true rfl⟩ hx8.1 htt 2 ⟨by omega, by omega⟩ (pa_count2 (kp := js71.1)) (Nat.le_of_ble_eq_true rfl) ?_
      refine z_iadd C dL_does_540 ?_
      refine z_aload_n C 4 dL_does_541 rfl ?_
      refine z_iconst C 3 dL_does_542 ?_
      refine pq_count (F := 0) C gL_does_X6_count dL_does_543 ⟨Nat.le_of_ble_eq_true rfl, Nat.le_of_ble_eq_true rfl⟩ ⟨Nat.le_of_ble_eq_true rfl, Nat.le_of_ble_eq_true rfl⟩ hx8.1 htt 3 ⟨by omega, by omega⟩ (pa_count3 (kp := js71.1)) (Nat.le_of_ble_eq_true rfl) ?_
      refine z_iadd C dL_does_546 ?_
      refine z_aload_n C 4 dL_does_547 rfl ?_
      refine z_iconst C 4 dL_does_548 ?_
      refine pq_count (F := 0) C gL_does_X6_count dL_does_549 ⟨Nat.le_of_ble_eq_true rfl, Nat.le_of_ble_eq_true rfl⟩ ⟨Nat.le_of_ble_eq_true rfl, Nat.le_of_ble_eq_true rfl⟩ hx8.1 htt 4 ⟨by omega, by omega⟩ (pa_count4 (kp := js71.1)) (Nat.le_of_ble_eq_true rfl) ?_
      refine z_iadd C dL_does_552 ?_
      refine z_aload_n C 4 dL_does_553 rfl ?_
      refine z_bipush C 6 dL_does_554 (by decide) ?_
      refine pq_count (F := 0) C gL_does_X6_count dL_does_556 ⟨Nat.le_of_ble_eq_true rfl, Nat.le_of_ble_eq_true rfl⟩ ⟨Nat.le_of_ble_eq_true rfl, Nat.le_of_ble_eq_true rfl⟩ hx8.1 htt 6 ⟨by omega, by omega⟩ ((pa_count6 (kp := js71.1)).trans (x_c6_anew _ _)) (Nat.le_of_ble_eq_true rfl) ?_
      refine z_iadd C dL_does_559 ?_
      refine z_aload_n C 4 dL_does_560 rfl ?_
      refine z_bipush C 9 dL_does_561 (by decide) ?_
      refine pq_count (F := 0) C gL_does_X6_count dL_does_563 ⟨Nat.le_of_ble_eq_true rfl, Nat.le_of_ble_eq_true rfl⟩ ⟨Nat.le_of_ble_eq_true rfl, Nat.le_of_ble_eq_true rfl⟩ hx8.1 htt 9 ⟨by omega, by omega⟩ (pa_count9 (kp := js71.1)) (Nat.le_of_ble_eq_true rfl) ?_
      refine z_iadd C dL_does_566 ?_
      refine z_if_ne C 595 dL_does_567 (by decide) ⟨by omega, by omega⟩ (fun hc73 => absurd hc73 (by omega)) (fun hc73 => ?_)
      refine z_aload_n C 4 dL_does_570 rfl ?_
      refine z_iconst C 0 dL_does_571 ?_
      refine pq_count (F := ct.1.1) C gL_does_X6_count dL_does_572 ⟨Nat.le_of_ble_eq_true rfl, Nat.le_of_ble_eq_true rfl⟩ ⟨Nat.le_of_ble_eq_true rfl, Nat.le_of_ble_eq_true rfl⟩ hx8.1 htt 0 ⟨by omega, by omega⟩ (pa_count0 (kp := js71.1)) (Nat.le_of_ble_eq_true rfl) ?_
      refine z_iload C 0 dL_does_575 rfl ?_
      refine z_icmp_ne C 595 dL_does_577 (by decide) ⟨by omega, by omega⟩ ⟨by omega, by omega⟩ (fun hc74 => absurd hc74 (by omega)) (fun hc74 => ?_)
      refine z_aload_n C 4 dL_does_580 rfl ?_
      refine z_bipush C 8 dL_does_581 (by decide) ?_
      refine pq_count (F := ct.1.1) C gL_does_X6_count dL_does_583 ⟨Nat.le_of_ble_eq_true rfl, Nat.le_of_ble_eq_true rfl⟩ ⟨Nat.le_of_ble_eq_true rfl, Nat.le_of_ble_eq_true rfl⟩ hx8.1 htt 8 ⟨by omega, by omega⟩ (pa_count8 (kp := js71.1) rfl) (Nat.le_of_ble_eq_true rfl) ?_
      refine z_iload C 0 dL_does_586 rfl ?_
      refine z_icmp_ne C 595 dL_does_588 (by decide) ⟨by omega, by omega⟩ ⟨by omega, by omega⟩ (fun hc75 => absurd hc75 (by omega)) (fun hc75 => ?_)
      refine z_iconst C 1 dL_does_591 ?_
      refine z_goto C 596 dL_does_592 (by decide) ?_
      exact z_zrete C hQ ((z_anew ct (1 + x_lo (x_sr v 7) 5)), js71) rfl ⟨rfl, hx8, (by show (z_anew ct (1 + x_lo (x_sr v 7) 5)).1.1 ≤ ct.1.1 + 70; omega), hjs71⟩ (Or.inr rfl) dL_does_596
  by_cases hc76 : x_lo v 16 = 9
  · refine z_tabI C 486 9 dL_does_28 hc76 (by decide) rfl (by decide) ?_
    exact br486
  refine z_tabO C 597 dL_does_28 ⟨by omega, by omega⟩ (by omega) (by decide) ?_
  refine z_aload_n C 2 dL_does_597 rfl ?_
  refine z_iconst C 1 dL_does_598 ?_
  refine z_iload_n C 3 dL_does_599 rfl ?_
  refine z_iconst C 4 dL_does_600 ?_
  refine z_ishr C (x_sr v 4) dL_does_601 (x_sr_eq _ _) ?_
  refine z_iload_n C 3 dL_does_602 rfl ?_
  refine z_bipush C 9 dL_does_603 (by decide) ?_
  refine z_ishr C (x_sr v 9) dL_does_605 (x_sr_eq _ _) ?_
  refine z_iconst C 3 dL_does_606 ?_
  refine z_iand C (x_an (x_sr v 9) 3) dL_does_607 (x_an_eq _ _) ?_
  refine z_if_ne C 616 dL_does_608 (by decide) ⟨by omega, by omega⟩ (fun hc77 => ?_) (fun hc77 => ?_)
  · skip
    refine z_iconst C 5 dL_does_616 ?_
    refine z_callSi C [] ((pw cI cZ cO g ct J ++ []).flatten) [.int (z_I (x_sr v 4)), .int (z_I 5)] [.int (z_I 1), .ref (g 0)] (c_L_low l D (z_T cI cZ cO) (x_sr v 4) 5 (by omega)) gL_does_L_low rfl zd_L_low rfl ⟨Nat.le_of_ble_eq_true rfl, Nat.le_of_ble_eq_true rfl⟩ rfl rfl rfl rfl rfl (Nat.le_of_ble_eq_true rfl) ⟨Nat.le_of_ble_eq_true rfl, Nat.le_of_ble_eq_true rfl⟩ dL_does_617 ?_
    refine z_iadd C dL_does_620 ?_
    refine z_callLS C [.ref (g 0), .int (z_I (1 + (x_lo (x_sr v 4) 5)))] [] (c_L_passes l D cI cZ cO g ct J (1 + (x_lo (x_sr v 4) 5)) hx (by omega) (by omega) hJ) gL_does_L_passes rfl zd_L_passes rfl ⟨Nat.le_of_ble_eq_true rfl, Nat.le_of_ble_eq_true rfl⟩ rfl (Nat.le_of_ble_eq_true rfl) ⟨Nat.le_of_ble_eq_true rfl, Nat.le_of_ble_eq_true rfl⟩ dL_does_621 (fun u ri hp => ?_)
    obtain ⟨rfl, hJ9⟩ := hp
    have hx9 := x_ps hx (1 + (x_lo (x_sr v 4) 5)).toNat
    have tx9 := (z_ps_aux hx.1 (1 + (x_lo (x_sr v 4) 5)).toNat).2.1
    exact z_zrete C hQ ((z_ps ct (1 + (x_lo (x_sr v 4) 5)).toNat).1, u) rfl ⟨rfl, hx9, (by show ((z_ps ct (1 + (x_lo (x_sr v 4) 5)).toNat).1).1.1 ≤ ct.1.1 + 70; omega), hJ9⟩ (Or.inr rfl) dL_does_624
  · skip
    refine z_bipush C 70 dL_does_611 (by decide) ?_
    refine z_goto C 617 dL_does_613 (by decide) ?_
    refine z_callSi C [] ((pw cI cZ cO g ct J ++ []).flatten) [.int (z_I (x_sr v 4)), .int (z_I 70)] [.int (z_I 1), .ref (g 0)] (c_L_low l D (z_T cI cZ cO) (x_sr v 4) 70 (by omega)) gL_does_L_low rfl zd_L_low rfl ⟨Nat.le_of_ble_eq_true rfl, Nat.le_of_ble_eq_true rfl⟩ rfl rfl rfl rfl rfl (Nat.le_of_ble_eq_true rfl) ⟨Nat.le_of_ble_eq_true rfl, Nat.le_of_ble_eq_true rfl⟩ dL_does_617 ?_
    refine z_iadd C dL_does_620 ?_
    refine z_callLS C [.ref (g 0), .int (z_I (1 + (x_lo (x_sr v 4) 70)))] [] (c_L_passes l D cI cZ cO g ct J (1 + (x_lo (x_sr v 4) 70)) hx (by omega) (by omega) hJ) gL_does_L_passes rfl zd_L_passes rfl ⟨Nat.le_of_ble_eq_true rfl, Nat.le_of_ble_eq_true rfl⟩ rfl (Nat.le_of_ble_eq_true rfl) ⟨Nat.le_of_ble_eq_true rfl, Nat.le_of_ble_eq_true rfl⟩ dL_does_621 (fun u ri hp => ?_)
    obtain ⟨rfl, hJ9⟩ := hp
    have hx9 := x_ps hx (1 + (x_lo (x_sr v 4) 70)).toNat
    have tx9 := (z_ps_aux hx.1 (1 + (x_lo (x_sr v 4) 70)).toNat).2.1
    exact z_zrete C hQ ((z_ps ct (1 + (x_lo (x_sr v 4) 70)).toNat).1, u) rfl ⟨rfl, hx9, (by show ((z_ps ct (1 + (x_lo (x_sr v 4) 70)).toNat).1).1.1 ≤ ct.1.1 + 70; omega), hJ9⟩ (Or.inr rfl) dL_does_624
