theorem zl_L_isTest_c9 : Cond.classLink RL 9 RX6 ∈ wsL_isTest := by decide +kernel
theorem zl_L_isTest_iX6 : Cond.instantiable RX6 6 ∈ wsL_isTest := by decide +kernel
theorem zl_L_isTest_l34 : Cond.methodLink RL 34 yX6_init ∈ wsL_isTest := by decide +kernel
theorem zl_L_isTest_mX6 : Cond.instanceMethod yX6_init ∈ wsL_isTest := by decide +kernel
theorem zl_L_isTest_nX6 : Cond.initialized RX6 ∈ wsL_isTest := by decide +kernel
theorem zd_L_isTest : yL_isTest.cls ≠ "java/lang/invoke/MethodHandle" ∧ yL_isTest.cls ≠ "java/lang/invoke/VarHandle" ∧ (parseMethodDescriptor yL_isTest.desc).map (fun d => d.parameters.length) = some 2 := by decide +kernel
set_option maxHeartbeats 4000000 in
set_option maxRecDepth 100000 in
theorem c_L_isTest (l : Launch) (D : va_G) (cI cZ cO : ClassId) (g : Nat → Nat) (ct : z_Ct) (J : p_J) (gp : Int) (hx : x_ok ct) (ht : ct.1.1 ≤ 9999) (hgp : 1 ≤ gp ∧ gp ≤ 50) (hJ : p_ok J) : z_Et (p_J) l yL_isTest wsL_isTest 5 125 161 6864 D (z_T cI cZ cO) [.ref (g 0), .int (z_I gp)] ((pw cI cZ cO g ct J ++ []).flatten) (fun u => (pw cI cZ cO g ct u ++ []).flatten) (fun i u => i = 1 ∧ p_ok u) := by
  refine z_Et_of (cc := cL_isTest) (nL := 7) (ret := (some .boolean)) (by decide +kernel) rfl (Nat.le_of_ble_eq_true rfl) ?_
  intro p e s m args below meth c A Q C hN hQ
  change z_V p l e { frames := 5, cells := 161, slots := 6864, locals := 125 } s m args below meth c D A 7 0 0 Q ((pw cI cZ cO g ct J ++ []).flatten) 0 [(0, .ref (g 0)), (1, .int (z_I gp))] []
  obtain ⟨t0, st0, p20, sh0, ow0, ck0, rn0, lw0, ho0, lc0, ld0, rl0, sn0, lct, owz⟩ := x_bas hx
  have hdl := hx.1.1.2.2.2.1
  have hfr0 := x_fr_0 (dl := ct.1.2.2.2.2.1) st0
  have esa : (z_chg z_ct0 0 ct.1.2.1).1 = z_anew z_ct0 ct.1.2.1 := by rw [x_stA st0]
  refine z_new (ci := 6) (fs := [.null, .null, .null, .null, .null, .null]) C (fun hX => ((pw cI cZ cO g ct J ++ []).flatten ++ [(hX, .inr (6, [.null, .null, .null, .null, .null, .null]))])) inTX6 tyX6_ok zl_L_isTest_c9 zl_L_isTest_iX6 zl_L_isTest_nX6 rfl (fun j hj => by rcases (show j = 0 ∨ j = 1 ∨ j = 2 ∨ j = 3 ∨ j = 4 ∨ j = 5 by omega) with rfl | rfl | rfl | rfl | rfl | rfl <;> rfl) ⟨Nat.le_of_ble_eq_true rfl, Nat.le_of_ble_eq_true rfl⟩ (fun hX => rfl) dL_isTest_0 (fun hX => ?_)
  refine z_dup C dL_isTest_3 rfl ?_
  refine z_callN C hN ((pw cI cZ cO g ct J ++ []).flatten) (c_X6_init l D cI cZ cO hX) gL_isTest_X6_init rfl zl_L_isTest_l34 zl_L_isTest_mX6 zl_L_isTest_nX6 rfl zd_X6_init (by decide) rfl (Nat.le_of_ble_eq_true rfl) ⟨Nat.le_of_ble_eq_true rfl, Nat.le_of_ble_eq_true rfl⟩ dL_isTest_4 (fun w9 hw9 => ?_)
  obtain ⟨g2, J2, hg2, hJ2, hJ20, rfl⟩ := p_new hw9
  subst hg2
  refine z_ws ((pw cI cZ cO g ct J ++ pw cI cZ cO g2 z_ct0 J2).flatten) (p_app _ _) ?_
  refine z_astore_n C [(2, .ref (g2 0)), (0, .ref (g 0)), (1, .int (z_I gp))] dL_isTest_7 (by decide) rfl ?_
  refine z_aload_n C 1 dL_isTest_8 rfl ?_
  refine z_bipush C 10 dL_isTest_9 (by decide) ?_
  refine pq_count (F := ct.1.2.1) C gL_isTest_X6_count dL_isTest_11 ⟨Nat.le_of_ble_eq_true rfl, Nat.le_of_ble_eq_true rfl⟩ ⟨Nat.le_of_ble_eq_true rfl, Nat.le_of_ble_eq_true rfl⟩ hx.1 ht 10 ⟨by omega, by omega⟩ (pa_count10 (kp := J.1)) (Nat.le_of_ble_eq_true rfl) ?_
  refine z_istore_n C [(3, .int (z_I ct.1.2.1)), (2, .ref (g2 0)), (0, .ref (g 0)), (1, .int (z_I gp))] dL_isTest_14 (by decide) rfl ?_
  refine z_aload_n C 1 dL_isTest_15 rfl ?_
  refine z_iconst C 0 dL_isTest_16 ?_
  refine z_iload_n C 0 dL_isTest_17 rfl ?_
  refine z_sw ?_
  refine pq_set (F := 4) C gL_isTest_X6_set dL_isTest_18 ⟨Nat.le_of_ble_eq_true rfl, Nat.le_of_ble_eq_true rfl⟩ ⟨Nat.le_of_ble_eq_true rfl, Nat.le_of_ble_eq_true rfl⟩ x_ok_ct0.1 (by decide) hJ2 0 ct.1.2.1 ⟨by omega, by omega⟩ ⟨by omega, by omega⟩ (by rw [x_stA st0]; rfl) (Nat.le_of_ble_eq_true rfl) ?_
  obtain ⟨js1, ejs1, hjs1⟩ : ∃ j : p_J, p_st J2 z_ct0 (z_chg z_ct0 0 ct.1.2.1).2 = j ∧ p_ok j := ⟨_, rfl, p_st_ok hJ2 x_ok_ct0.1 (by decide) _⟩
  rw [ejs1]
  rw [esa]
  refine z_iconst C 4 dL_isTest_21 ?_
  refine z_icmp_ne C 29 dL_isTest_22 (by decide) ⟨by omega, by omega⟩ ⟨by omega, by omega⟩ (fun hc2 => absurd hc2 (by omega)) (fun hc2 => ?_)
  refine z_iconst C 1 dL_isTest_25 ?_
  refine z_goto C 30 dL_isTest_26 (by decide) ?_
  refine z_istore C [(4, .int (z_I 1)), (3, .int (z_I ct.1.2.1)), (2, .ref (g2 0)), (0, .ref (g 0)), (1, .int (z_I gp))] dL_isTest_30 (by decide) rfl ?_
  refine z_iconst C 0 dL_isTest_32 ?_
  refine z_istore C [(5, .int (z_I 0)), (4, .int (z_I 1)), (3, .int (z_I ct.1.2.1)), (2, .ref (g2 0)), (0, .ref (g 0)), (1, .int (z_I gp))] dL_isTest_33 (by decide) rfl ?_
  have loop35 : ∀ (zn : Nat) (k_9 : Int) (q_9 : z_Ct) (Jq_9 : p_J), 0 ≤ k_9 → k_9 ≤ ct.1.2.1 → x_fr q_9 ct.1.2.1 ct.1.2.2.2.2.1 k_9 → p_ok Jq_9 → ct.1.2.1 - k_9 < (zn : Int) → z_V p l e { frames := 5, cells := 161, slots := 6864, locals := 125 } s m args below meth c D A 7 161 6864 Q ((pw cI cZ cO g ct J ++ pw cI cZ cO g2 q_9 Jq_9).flatten) 35 [(5, .int (z_I k_9)), (4, .int (z_I 1)), (3, .int (z_I ct.1.2.1)), (2, .ref (g2 0)), (0, .ref (g 0)), (1, .int (z_I gp))] [] := by
    intro zn
    induction zn with
    | zero => intro k_9 q_9 Jq_9 hk0 hk1 hfr hJq hm; exact absurd hm (by omega)
    | succ zn35 ih35 =>
      intro k_9 q_9 Jq_9 hk0 hk1 hfr hJq hm35
      have htq : q_9.1.1 ≤ 9999 := by rw [hfr.2.1]; decide
      refine z_iload C 0 dL_isTest_35 rfl ?_
      refine z_iload_n C 2 dL_isTest_37 rfl ?_
      refine z_icmp_ge C 76 dL_isTest_38 (by decide) ⟨by omega, by omega⟩ ⟨by omega, by omega⟩ (fun hc3 => ?_) (fun hc3 => ?_)
      · skip
        obtain rfl : k_9 = ct.1.2.1 := by omega
        refine z_iconst C 0 dL_isTest_76 ?_
        refine z_istore C [(5, .int (z_I 0)), (4, .int (z_I 1)), (3, .int (z_I ct.1.2.1)), (2, .ref (g2 0)), (0, .ref (g 0)), (1, .int (z_I gp))] dL_isTest_77 (by decide) rfl ?_
        refine z_iconst C 0 dL_isTest_79 ?_
        refine z_istore C [(6, .int (z_I 0)), (5, .int (z_I 0)), (4, .int (z_I 1)), (3, .int (z_I ct.1.2.1)), (2, .ref (g2 0)), (0, .ref (g 0)), (1, .int (z_I gp))] dL_isTest_80 (by decide) rfl ?_
        have loop82 : ∀ (zn : Nat) (n_9 : Int) (wr_9 : Int) (q2_9 : z_Ct) (Jr_9 : p_J), 0 ≤ n_9 → n_9 ≤ z_p2 ct.1.2.1 → x_run q_9 q2_9 gp n_9 wr_9 → 0 ≤ wr_9 ∧ wr_9 ≤ n_9 → p_ok Jr_9 → q2_9.1.1 ≤ 9999 → z_p2 ct.1.2.1 - n_9 < (zn : Int) → z_V p l e { frames := 5, cells := 161, slots := 6864, locals := 125 } s m args below meth c D A 7 161 6864 Q ((pw cI cZ cO g ct J ++ pw cI cZ cO g2 q2_9 Jr_9).flatten) 82 [(6, .int (z_I n_9)), (5, .int (z_I wr_9)), (4, .int (z_I 1)), (3, .int (z_I ct.1.2.1)), (2, .ref (g2 0)), (0, .ref (g 0)), (1, .int (z_I gp))] [] := by
          intro zn
          induction zn with
          | zero => intro n_9 wr_9 q2_9 Jr_9 n0 n1 hrun w0 hJr htr hm; exact absurd hm (by omega)
          | succ zn82 ih82 =>
            intro n_9 wr_9 q2_9 Jr_9 n0 n1 hrun w0 hJr htr hm82
            refine z_iload C 0 dL_isTest_82 rfl ?_
            refine z_iconst C 1 dL_isTest_84 ?_
            refine z_iload_n C 3 dL_isTest_85 rfl ?_
            refine z_ishl C (z_p2 ct.1.2.1) dL_isTest_86 (z_shl1 (by omega)) ?_
            refine z_icmp_ge C 153 dL_isTest_87 (by decide) ⟨by omega, by omega⟩ ⟨by omega, by omega⟩ (fun hc4 => ?_) (fun hc4 => ?_)
            · skip
              obtain rfl : n_9 = z_p2 ct.1.2.1 := by omega
              have hend := x_run_end hfr st0 hgp hrun
              obtain ⟨c5a, c5b⟩ := x_run_c5 hrun
              refine z_iload C 2 dL_isTest_153 rfl ?_
              refine z_if_eq C 199 dL_isTest_155 (by decide) ⟨by omega, by omega⟩ (fun hc5 => absurd hc5 (by omega)) (fun hc5 => ?_)
              refine z_aload_n C 4 dL_isTest_158 rfl ?_
              refine z_iconst C 4 dL_isTest_159 ?_
              refine z_sw ?_
              refine pq_count (F := q2_9.2.1.1) C gL_isTest_X6_count dL_isTest_160 ⟨Nat.le_of_ble_eq_true rfl, Nat.le_of_ble_eq_true rfl⟩ ⟨Nat.le_of_ble_eq_true rfl, Nat.le_of_ble_eq_true rfl⟩ hrun.1.1 htr 4 ⟨by omega, by omega⟩ (pa_count4 (kp := Jr_9.1)) (Nat.le_of_ble_eq_true rfl) ?_
              refine z_iconst C 1 dL_isTest_163 ?_
              refine z_iload_n C 3 dL_isTest_164 rfl ?_
              refine z_ishl C (z_p2 ct.1.2.1) dL_isTest_165 (z_shl1 (by omega)) ?_
              refine z_icmp_ne C 199 dL_isTest_166 (by decide) ⟨by omega, by omega⟩ ⟨by omega, by omega⟩ (fun hc6 => absurd hc6 (by omega)) (fun hc6 => ?_)
              refine z_aload_n C 4 dL_isTest_169 rfl ?_
              refine z_iconst C 4 dL_isTest_170 ?_
              refine pq_count (F := q2_9.2.1.1) C gL_isTest_X6_count dL_isTest_171 ⟨Nat.le_of_ble_eq_true rfl, Nat.le_of_ble_eq_true rfl⟩ ⟨Nat.le_of_ble_eq_true rfl, Nat.le_of_ble_eq_true rfl⟩ hrun.1.1 htr 4 ⟨by omega, by omega⟩ (pa_count4 (kp := Jr_9.1)) (Nat.le_of_ble_eq_true rfl) ?_
              refine z_aload_n C 4 dL_isTest_174 rfl ?_
              refine z_iconst C 5 dL_isTest_175 ?_
              refine pq_count (F := x_c5 q2_9 q2_9.2.1.1) C gL_isTest_X6_count dL_isTest_176 ⟨Nat.le_of_ble_eq_true rfl, Nat.le_of_ble_eq_true rfl⟩ ⟨Nat.le_of_ble_eq_true rfl, Nat.le_of_ble_eq_true rfl⟩ hrun.1.1 htr 5 ⟨by omega, by omega⟩ (pa_count5 (kp := Jr_9.1)) (Nat.le_of_ble_eq_true rfl) ?_
              refine z_isub C dL_isTest_179 ?_
              refine z_iload C 1 dL_isTest_180 rfl ?_
              refine z_icmp_ne C 199 dL_isTest_182 (by decide) ⟨by omega, by omega⟩ ⟨by omega, by omega⟩ (fun hc7 => absurd hc7 (by omega)) (fun hc7 => ?_)
              refine z_aload_n C 5 dL_isTest_185 rfl ?_
              refine z_iload_n C 6 dL_isTest_186 rfl ?_
              refine z_sw ?_
              refine pq_wrong (F := z_wc ct.1.2.1 ct.1.2.2.2.2.1 gp) C gL_isTest_X6_wrong dL_isTest_187 ⟨Nat.le_of_ble_eq_true rfl, Nat.le_of_ble_eq_true rfl⟩ ⟨Nat.le_of_ble_eq_true rfl, Nat.le_of_ble_eq_true rfl⟩ hx.1 ht gp ⟨by omega, by omega⟩ (pa_wrong (by omega)) (Nat.le_of_ble_eq_true rfl) ?_
              refine z_iload C 1 dL_isTest_190 rfl ?_
              refine z_icmp_ne C 199 dL_isTest_192 (by decide) ⟨by omega, by omega⟩ ⟨by omega, by omega⟩ (fun hc8 => absurd hc8 (by omega)) (fun hc8 => ?_)
              refine z_iconst C 1 dL_isTest_195 ?_
              refine z_goto C 200 dL_isTest_196 (by decide) ?_
              refine z_dropW ?_
              exact z_zrett C hQ rfl rfl J rfl ⟨rfl, hJ⟩ (Or.inr rfl) dL_isTest_200
            · skip
              obtain ⟨⟨r1, r1b⟩, ⟨r2, r2b⟩, r3, r4, r5, r6, r7, r8, r9, r10⟩ := x_run_s hfr st0 hgp ⟨n0, by omega⟩ hrun
              have hm1 := Int.emod_nonneg (n_9 + 1) (show z_p2 ct.1.2.1 ≠ 0 by omega)
              have hm2 := Int.emod_lt_of_pos (n_9 + 1) (show 0 < z_p2 ct.1.2.1 by omega)
              have prB := x_ps_B r8 r6 hgp
              have psr := x_shck r9
              refine z_iload C 2 dL_isTest_90 rfl ?_
              refine z_if_eq C 153 dL_isTest_92 (by decide) ⟨by omega, by omega⟩ (fun hc9 => absurd hc9 (by omega)) (fun hc9 => ?_)
              refine z_aload_n C 4 dL_isTest_95 rfl ?_
              refine z_sw ?_
              refine pq_clock (F := ((n_9 + 1) % z_p2 ct.1.2.1)) C gL_isTest_X6_clock dL_isTest_96 ⟨Nat.le_of_ble_eq_true rfl, Nat.le_of_ble_eq_true rfl⟩ ⟨Nat.le_of_ble_eq_true rfl, Nat.le_of_ble_eq_true rfl⟩ hrun.1.1 htr hJr   r1b (Nat.le_of_ble_eq_true rfl) ?_
              obtain ⟨js10, ejs10, hjs10⟩ : ∃ j : p_J, p_st Jr_9 q2_9 (z_tcA q2_9) = j ∧ p_ok j := ⟨_, rfl, p_st_ok hJr hrun.1.1 htr _⟩
              rw [ejs10]
              rw [r1]
              refine z_iload C 0 dL_isTest_99 rfl ?_
              refine z_iconst C 1 dL_isTest_101 ?_
              refine z_iadd C dL_isTest_102 ?_
              refine z_iconst C 1 dL_isTest_103 ?_
              refine z_iload_n C 3 dL_isTest_104 rfl ?_
              refine z_ishl C (z_p2 ct.1.2.1) dL_isTest_105 (z_shl1 (by omega)) ?_
              refine z_irem C dL_isTest_106 ⟨by omega, by omega⟩ ⟨by omega, by omega⟩ ?_
              refine z_icmp_ne C 122 dL_isTest_107 (by decide) ⟨by omega, by omega⟩ ⟨by omega, by omega⟩ (fun hc11 => absurd hc11 (by omega)) (fun hc11 => ?_)
              refine z_aload_n C 4 dL_isTest_110 rfl ?_
              refine z_iload_n C 6 dL_isTest_111 rfl ?_
              refine pq_pass (F := (z_ps (z_take q2_9) gp.toNat).2) C gL_isTest_X6_pass dL_isTest_112 ⟨Nat.le_of_ble_eq_true rfl, Nat.le_of_ble_eq_true rfl⟩ ⟨Nat.le_of_ble_eq_true rfl, Nat.le_of_ble_eq_true rfl⟩ r8 r6 hjs10 gp ⟨by omega, by omega⟩ (by rw [r2]) (Nat.le_of_ble_eq_true rfl) ?_
              obtain ⟨js12, ejs12, hjs12⟩ : ∃ j : p_J, p_st js10 (z_take q2_9) (z_lp (z_take q2_9) gp).2 = j ∧ p_ok j := ⟨_, rfl, p_st_ok hjs10 r8 r6 _⟩
              rw [ejs12]
              have elp : (z_lp (z_take q2_9) gp).1 = (z_ps (z_take q2_9) gp.toNat).1 := by rw [r2]
              rw [elp]
              refine z_if_lt C 122 dL_isTest_115 (by decide) ⟨by omega, by omega⟩ (fun hc13 => absurd hc13 (by omega)) (fun hc13 => ?_)
              refine z_iconst C 1 dL_isTest_118 ?_
              refine z_goto C 123 dL_isTest_119 (by decide) ?_
              refine z_istore C [(4, .int (z_I 1)), (6, .int (z_I n_9)), (5, .int (z_I wr_9)), (3, .int (z_I ct.1.2.1)), (2, .ref (g2 0)), (0, .ref (g 0)), (1, .int (z_I gp))] dL_isTest_123 (by decide) rfl ?_
              refine z_iload C 2 dL_isTest_125 rfl ?_
              refine z_aload_n C 4 dL_isTest_127 rfl ?_
              refine pq_read (F := (z_ps (z_take q2_9) gp.toNat).1.1.2.2.1) C gL_isTest_X6_read dL_isTest_128 ⟨Nat.le_of_ble_eq_true rfl, Nat.le_of_ble_eq_true rfl⟩ ⟨Nat.le_of_ble_eq_true rfl, Nat.le_of_ble_eq_true rfl⟩ r9 r7 hjs12   r3 (Nat.le_of_ble_eq_true rfl) ?_
              obtain ⟨js14, ejs14, hjs14⟩ : ∃ j : p_J, p_st js12 ((z_ps (z_take q2_9) gp.toNat).1) (z_rg ((z_ps (z_take q2_9) gp.toNat).1)).2 = j ∧ p_ok j := ⟨_, rfl, p_st_ok hjs12 r9 r7 _⟩
              rw [ejs14]
              refine z_aload_n C 4 dL_isTest_131 rfl ?_
              refine z_iconst C 2 dL_isTest_132 ?_
              refine pq_count (F := ((z_rg (z_ps (z_take q2_9) gp.toNat).1).1).2.2.2.2.1) C gL_isTest_X6_count dL_isTest_133 ⟨Nat.le_of_ble_eq_true rfl, Nat.le_of_ble_eq_true rfl⟩ ⟨Nat.le_of_ble_eq_true rfl, Nat.le_of_ble_eq_true rfl⟩ r5.1.1 r10 2 ⟨by omega, by omega⟩ (pa_count2 (kp := js14.1)) (Nat.le_of_ble_eq_true rfl) ?_
              refine z_icmp_ne C 143 dL_isTest_136 (by decide) ⟨by omega, by omega⟩ ⟨by omega, by omega⟩ (fun hc15 => ?_) (fun hc15 => ?_)
              · skip
                rw [if_neg (by omega)] at r5
                refine z_iconst C 1 dL_isTest_143 ?_
                refine z_iadd C dL_isTest_144 ?_
                refine z_istore C [(5, .int (z_I (wr_9 + 1))), (4, .int (z_I 1)), (6, .int (z_I n_9)), (3, .int (z_I ct.1.2.1)), (2, .ref (g2 0)), (0, .ref (g 0)), (1, .int (z_I gp))] dL_isTest_145 (by decide) rfl ?_
                refine z_iinc C 2 [(6, .int (z_I (n_9 + 1))), (5, .int (z_I (wr_9 + 1))), (4, .int (z_I 1)), (3, .int (z_I ct.1.2.1)), (2, .ref (g2 0)), (0, .ref (g 0)), (1, .int (z_I gp))] dL_isTest_147 rfl (by decide) rfl ?_
                refine z_goto C 82 dL_isTest_150 (by decide) ?_
                refine z_sw ?_
                exact ih82 (n_9 + 1) (wr_9 + 1) ((z_rg (z_ps (z_take q2_9) gp.toNat).1).1) js14 (by first | assumption | omega) (by first | assumption | omega) r5 (by first | assumption | omega) hjs14 r10 (by omega)
              · skip
                rw [if_pos (by omega)] at r5
                refine z_iconst C 0 dL_isTest_139 ?_
                refine z_goto C 144 dL_isTest_140 (by decide) ?_
                refine z_iadd C dL_isTest_144 ?_
                refine z_istore C [(5, .int (z_I (wr_9 + 0))), (4, .int (z_I 1)), (6, .int (z_I n_9)), (3, .int (z_I ct.1.2.1)), (2, .ref (g2 0)), (0, .ref (g 0)), (1, .int (z_I gp))] dL_isTest_145 (by decide) rfl ?_
                refine z_iinc C 2 [(6, .int (z_I (n_9 + 1))), (5, .int (z_I (wr_9 + 0))), (4, .int (z_I 1)), (3, .int (z_I ct.1.2.1)), (2, .ref (g2 0)), (0, .ref (g 0)), (1, .int (z_I gp))] dL_isTest_147 rfl (by decide) rfl ?_
                refine z_goto C 82 dL_isTest_150 (by decide) ?_
                refine z_sw ?_
                exact ih82 (n_9 + 1) (wr_9 + 0) ((z_rg (z_ps (z_take q2_9) gp.toNat).1).1) js14 (by first | assumption | omega) (by first | assumption | omega) r5 (by first | assumption | omega) hjs14 r10 (by omega)
        exact loop82 33 0 0 q_9 Jq_9 (by first | assumption | omega) (by first | assumption | omega) (x_run_0 hfr st0) (by first | assumption | omega) hJq htq (by omega)
      · skip
        have hdk := hdl k_9 hk0 (by omega)
        obtain ⟨cda, cdf⟩ := x_fr_cd hfr ⟨hk0, by omega⟩ hdk
        refine z_iload C 1 dL_isTest_41 rfl ?_
        refine z_if_eq C 67 dL_isTest_43 (by decide) ⟨by omega, by omega⟩ (fun hc16 => absurd hc16 (by omega)) (fun hc16 => ?_)
        refine z_aload_n C 3 dL_isTest_46 rfl ?_
        refine z_iload C 0 dL_isTest_47 rfl ?_
        refine z_aload_n C 4 dL_isTest_49 rfl ?_
        refine z_iload C 0 dL_isTest_50 rfl ?_
        refine z_iconst C 0 dL_isTest_52 ?_
        refine pq_of (F := ct.1.2.2.2.2.1 k_9) C gL_isTest_X6_of dL_isTest_53 ⟨Nat.le_of_ble_eq_true rfl, Nat.le_of_ble_eq_true rfl⟩ ⟨Nat.le_of_ble_eq_true rfl, Nat.le_of_ble_eq_true rfl⟩ hx.1 ht k_9 0 ⟨by omega, by omega⟩ ⟨by omega, by omega⟩ (pa_of0 (by omega)) (Nat.le_of_ble_eq_true rfl) ?_
        refine z_sw ?_
        refine pq_delay (F := 3) C gL_isTest_X6_delay dL_isTest_56 ⟨Nat.le_of_ble_eq_true rfl, Nat.le_of_ble_eq_true rfl⟩ ⟨Nat.le_of_ble_eq_true rfl, Nat.le_of_ble_eq_true rfl⟩ hfr.1.1 htq hJq k_9 (ct.1.2.2.2.2.1 k_9) ⟨by omega, by omega⟩ ⟨by omega, by omega⟩ cda (Nat.le_of_ble_eq_true rfl) ?_
        obtain ⟨js17, ejs17, hjs17⟩ : ∃ j : p_J, p_st Jq_9 q_9 (z_cd q_9 k_9 (ct.1.2.2.2.2.1 k_9)).2 = j ∧ p_ok j := ⟨_, rfl, p_st_ok hJq hfr.1.1 htq _⟩
        rw [ejs17]
        refine z_iconst C 3 dL_isTest_59 ?_
        refine z_icmp_ne C 67 dL_isTest_60 (by decide) ⟨by omega, by omega⟩ ⟨by omega, by omega⟩ (fun hc18 => absurd hc18 (by omega)) (fun hc18 => ?_)
        refine z_iconst C 1 dL_isTest_63 ?_
        refine z_goto C 68 dL_isTest_64 (by decide) ?_
        refine z_istore C [(4, .int (z_I 1)), (5, .int (z_I k_9)), (3, .int (z_I ct.1.2.1)), (2, .ref (g2 0)), (0, .ref (g 0)), (1, .int (z_I gp))] dL_isTest_68 (by decide) rfl ?_
        refine z_iinc C 1 [(5, .int (z_I (k_9 + 1))), (4, .int (z_I 1)), (3, .int (z_I ct.1.2.1)), (2, .ref (g2 0)), (0, .ref (g 0)), (1, .int (z_I gp))] dL_isTest_70 rfl (by decide) rfl ?_
        refine z_goto C 35 dL_isTest_73 (by decide) ?_
        refine z_sw ?_
        exact ih35 (k_9 + 1) ((z_cd q_9 k_9 (ct.1.2.2.2.2.1 k_9)).1) js17 (by first | assumption | omega) (by first | assumption | omega) cdf hjs17 (by omega)
  refine z_sw ?_
  exact loop35 6 0 (z_anew z_ct0 ct.1.2.1) js1 (by first | assumption | omega) (by first | assumption | omega) hfr0 hjs1 (by omega)
