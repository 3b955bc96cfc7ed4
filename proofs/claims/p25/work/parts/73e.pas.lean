theorem zd_L_passes : yL_passes.cls ≠ "java/lang/invoke/MethodHandle" ∧ yL_passes.cls ≠ "java/lang/invoke/VarHandle" ∧ (parseMethodDescriptor yL_passes.desc).map (fun d => d.parameters.length) = some 2 := by decide +kernel
set_option maxHeartbeats 4000000 in
set_option maxRecDepth 100000 in
theorem c_L_passes (l : Launch) (D : va_G) (cI cZ cO : ClassId) (g : Nat → Nat) (ct : z_Ct) (J : p_J) (mn : Int) (hx : x_ok ct) (ht : ct.1.1 + mn ≤ 9999) (hmn : 1 ≤ mn ∧ mn ≤ 99) (hJ : p_ok J) : z_Ei (p_J) l yL_passes wsL_passes 5 124 D (z_T cI cZ cO) [.ref (g 0), .int (z_I mn)] ((pw cI cZ cO g ct J ++ []).flatten) (fun u => (pw cI cZ cO g (z_ps ct mn.toNat).1 u ++ []).flatten) (fun i u => i = 1 ∧ p_ok u) := by
  refine z_Ei_of (cc := cL_passes) (nL := 12) (ret := (some .boolean)) (by decide +kernel) rfl (Nat.le_of_ble_eq_true rfl) ?_
  intro p e s m args below meth c A Q C hQ
  change z_V p l e { frames := 5, cells := 0, slots := 0, locals := 124 } s m args below meth c D A 12 0 0 Q ((pw cI cZ cO g ct J ++ []).flatten) 0 [(0, .ref (g 0)), (1, .int (z_I mn))] []
  obtain ⟨t0, st0, p20, sh0, ow0, ck0, rn0, lw0, ho0, lc0, ld0, rl0, sn0, lct, owz⟩ := x_bas hx
  have htt : ct.1.1 ≤ 9999 := by omega
  have hx2 := x_ps hx mn.toNat
  obtain ⟨aux1, aux2, aux3, aux4, aux5⟩ := z_ps_aux hx.1 mn.toNat
  have emn : ((mn.toNat : Nat) : Int) = mn := by omega
  rw [emn] at aux2 aux5
  have t2 : (z_ps ct mn.toNat).1.1.1 = ct.1.1 + mn := by omega
  have ht2 : (z_ps ct mn.toNat).1.1.1 ≤ 9999 := by omega
  obtain ⟨t0b, st0b, p20b, sh0b, ow0b, ck0b, rn0b, lw0b, ho0b, lc0b, ld0b, rl0b, sn0b, lctb, owzb⟩ := x_bas hx2
  have st2 := (z_ps_st (ct := ct) mn.toNat).1
  have elp : z_lp ct mn = z_ps ct mn.toNat := by unfold z_lp; rw [if_pos hmn, if_pos ht]
  have edn : (z_ps ct mn.toNat).2 = x_pD (z_ps ct mn.toNat).1 ct.1.2.1 - x_pD ct ct.1.2.1 := x_done hx.1 mn.toNat
  obtain ⟨si0, si1, si2⟩ := x_si_r hx.1
  obtain ⟨sj0, sj1, sj2⟩ := x_si_r hx2.1
  obtain ⟨sp1, sp2⟩ := x_stillPs hx.1 mn.toNat
  rw [emn] at sp1 sp2
  have sp1b : mn < x_si0 ct → x_si0 (z_ps ct mn.toNat).1 = x_si0 ct - mn := sp1
  have sp2b : ¬ mn < x_si0 ct → x_si0 (z_ps ct mn.toNat).1 = 0 ∧ (z_ps ct mn.toNat).1.1.2.2.2.1 = 0 := sp2
  have z0 : ct.1.2.2.2.1 = 0 → (z_ps ct mn.toNat).2 = 0 := fun q => (x_ps0 hx.1 q mn.toNat).1
  have lat := x_latch hx mn.toNat
  have rl2 : (z_ps ct mn.toNat).1.2.1.1 + (z_ps ct mn.toNat).1.2.2.2.2.2.2.2 = ct.2.1.1 + ct.2.2.2.2.2.2.2 := by rcases lat with ⟨l1, l2⟩ | ⟨l1, l2, l3, -⟩ <;> omega
  refine z_aload_n C 0 dL_passes_0 rfl ?_
  refine z_iconst C 0 dL_passes_1 ?_
  refine pq_count (F := ct.1.1) C gL_passes_X6_count dL_passes_2 ⟨Nat.le_of_ble_eq_true rfl, Nat.le_of_ble_eq_true rfl⟩ ⟨Nat.le_of_ble_eq_true rfl, Nat.le_of_ble_eq_true rfl⟩ hx.1 htt 0 ⟨by omega, by omega⟩ (pa_count0 (kp := J.1)) (Nat.le_of_ble_eq_true rfl) ?_
  refine z_istore_n C [(2, .int (z_I ct.1.1)), (0, .ref (g 0)), (1, .int (z_I mn))] dL_passes_5 (by decide) rfl ?_
  refine z_aload_n C 1 dL_passes_6 rfl ?_
  refine pq_stillIn (F := x_si0 ct) C gL_passes_X6_stillIn dL_passes_7 ⟨Nat.le_of_ble_eq_true rfl, Nat.le_of_ble_eq_true rfl⟩ ⟨Nat.le_of_ble_eq_true rfl, Nat.le_of_ble_eq_true rfl⟩ hx.1 htt   pa_stillIn (Nat.le_of_ble_eq_true rfl) ?_
  obtain ⟨jt1, ejt1, hjt1⟩ : ∃ j : p_J, p_tr J (z_si ct.1 0 101).2 = j ∧ p_ok j := ⟨_, rfl, p_tr_ok hJ _⟩
  rw [ejt1]
  refine z_istore_n C [(3, .int (z_I (x_si0 ct))), (2, .int (z_I ct.1.1)), (0, .ref (g 0)), (1, .int (z_I mn))] dL_passes_10 (by decide) rfl ?_
  refine z_aload_n C 2 dL_passes_11 rfl ?_
  refine z_iload_n C 3 dL_passes_12 rfl ?_
  refine pq_showsIn (F := (z_ps ct mn.toNat).1.1.2.2.1) C gL_passes_X6_showsIn dL_passes_13 ⟨Nat.le_of_ble_eq_true rfl, Nat.le_of_ble_eq_true rfl⟩ ⟨Nat.le_of_ble_eq_true rfl, Nat.le_of_ble_eq_true rfl⟩ hx.1 htt mn ⟨by omega, by omega⟩ (pa_showsIn (tr := jt1.2.2.2) (by omega)) (Nat.le_of_ble_eq_true rfl) ?_
  obtain ⟨jt2, ejt2, hjt2⟩ : ∃ j : p_J, p_tr jt1 (z_sh ct.1 jt1.2.2.2 mn).2 = j ∧ p_ok j := ⟨_, rfl, p_tr_ok hjt1 _⟩
  rw [ejt2]
  refine z_istore C [(4, .int (z_I ((z_ps ct mn.toNat).1.1.2.2.1))), (3, .int (z_I (x_si0 ct))), (2, .int (z_I ct.1.1)), (0, .ref (g 0)), (1, .int (z_I mn))] dL_passes_16 (by decide) rfl ?_
  refine z_aload_n C 3 dL_passes_18 rfl ?_
  refine z_iconst C 3 dL_passes_19 ?_
  refine pq_count (F := ct.1.2.2.2.1) C gL_passes_X6_count dL_passes_20 ⟨Nat.le_of_ble_eq_true rfl, Nat.le_of_ble_eq_true rfl⟩ ⟨Nat.le_of_ble_eq_true rfl, Nat.le_of_ble_eq_true rfl⟩ hx.1 htt 3 ⟨by omega, by omega⟩ (pa_count3 (kp := jt2.1)) (Nat.le_of_ble_eq_true rfl) ?_
  refine z_istore C [(5, .int (z_I ct.1.2.2.2.1)), (4, .int (z_I ((z_ps ct mn.toNat).1.1.2.2.1))), (3, .int (z_I (x_si0 ct))), (2, .int (z_I ct.1.1)), (0, .ref (g 0)), (1, .int (z_I mn))] dL_passes_23 (by decide) rfl ?_
  refine z_aload_n C 4 dL_passes_25 rfl ?_
  refine z_iconst C 4 dL_passes_26 ?_
  refine pq_count (F := ct.2.1.1) C gL_passes_X6_count dL_passes_27 ⟨Nat.le_of_ble_eq_true rfl, Nat.le_of_ble_eq_true rfl⟩ ⟨Nat.le_of_ble_eq_true rfl, Nat.le_of_ble_eq_true rfl⟩ hx.1 htt 4 ⟨by omega, by omega⟩ (pa_count4 (kp := jt2.1)) (Nat.le_of_ble_eq_true rfl) ?_
  refine z_istore C [(6, .int (z_I ct.2.1.1)), (5, .int (z_I ct.1.2.2.2.1)), (4, .int (z_I ((z_ps ct mn.toNat).1.1.2.2.1))), (3, .int (z_I (x_si0 ct))), (2, .int (z_I ct.1.1)), (0, .ref (g 0)), (1, .int (z_I mn))] dL_passes_30 (by decide) rfl ?_
  refine z_aload_n C 5 dL_passes_32 rfl ?_
  refine z_bipush C 9 dL_passes_33 (by decide) ?_
  refine pq_count (F := ct.2.2.2.2.2.2.2) C gL_passes_X6_count dL_passes_35 ⟨Nat.le_of_ble_eq_true rfl, Nat.le_of_ble_eq_true rfl⟩ ⟨Nat.le_of_ble_eq_true rfl, Nat.le_of_ble_eq_true rfl⟩ hx.1 htt 9 ⟨by omega, by omega⟩ (pa_count9 (kp := jt2.1)) (Nat.le_of_ble_eq_true rfl) ?_
  refine z_istore C [(7, .int (z_I ct.2.2.2.2.2.2.2)), (6, .int (z_I ct.2.1.1)), (5, .int (z_I ct.1.2.2.2.1)), (4, .int (z_I ((z_ps ct mn.toNat).1.1.2.2.1))), (3, .int (z_I (x_si0 ct))), (2, .int (z_I ct.1.1)), (0, .ref (g 0)), (1, .int (z_I mn))] dL_passes_38 (by decide) rfl ?_
  refine z_iconst C 0 dL_passes_40 ?_
  refine z_istore C [(8, .int (z_I 0)), (7, .int (z_I ct.2.2.2.2.2.2.2)), (6, .int (z_I ct.2.1.1)), (5, .int (z_I ct.1.2.2.2.1)), (4, .int (z_I ((z_ps ct mn.toNat).1.1.2.2.1))), (3, .int (z_I (x_si0 ct))), (2, .int (z_I ct.1.1)), (0, .ref (g 0)), (1, .int (z_I mn))] dL_passes_41 (by decide) rfl ?_
  refine z_iconst C 0 dL_passes_43 ?_
  refine z_istore C [(9, .int (z_I 0)), (8, .int (z_I 0)), (7, .int (z_I ct.2.2.2.2.2.2.2)), (6, .int (z_I ct.2.1.1)), (5, .int (z_I ct.1.2.2.2.1)), (4, .int (z_I ((z_ps ct mn.toNat).1.1.2.2.1))), (3, .int (z_I (x_si0 ct))), (2, .int (z_I ct.1.1)), (0, .ref (g 0)), (1, .int (z_I mn))] dL_passes_44 (by decide) rfl ?_
  have loop46 : ∀ (zn : Nat) (k_9 : Int) (a_9 : Int), 0 ≤ k_9 → k_9 ≤ ct.1.2.1 → a_9 = x_pD ct k_9 → ct.1.2.1 - k_9 < (zn : Int) → z_V p l e { frames := 5, cells := 0, slots := 0, locals := 124 } s m args below meth c D A 12 0 0 Q ((pw cI cZ cO g ct jt2 ++ []).flatten) 46 [(9, .int (z_I k_9)), (8, .int (z_I a_9)), (7, .int (z_I ct.2.2.2.2.2.2.2)), (6, .int (z_I ct.2.1.1)), (5, .int (z_I ct.1.2.2.2.1)), (4, .int (z_I ((z_ps ct mn.toNat).1.1.2.2.1))), (3, .int (z_I (x_si0 ct))), (2, .int (z_I ct.1.1)), (0, .ref (g 0)), (1, .int (z_I mn))] [] := by
    intro zn
    induction zn with
    | zero => intro k_9 a_9 hk0 hk1 ha hm; exact absurd hm (by omega)
    | succ zn46 ih46 =>
      intro k_9 a_9 hk0 hk1 ha hm46
      have ra := x_pD_r hx (k := k_9) (by omega)
      refine z_iload C 0 dL_passes_46 rfl ?_
      refine z_aload_n C 8 dL_passes_48 rfl ?_
      refine z_bipush C 10 dL_passes_49 (by decide) ?_
      refine pq_count (F := ct.1.2.1) C gL_passes_X6_count dL_passes_51 ⟨Nat.le_of_ble_eq_true rfl, Nat.le_of_ble_eq_true rfl⟩ ⟨Nat.le_of_ble_eq_true rfl, Nat.le_of_ble_eq_true rfl⟩ hx.1 htt 10 ⟨by omega, by omega⟩ (pa_count10 (kp := jt2.1)) (Nat.le_of_ble_eq_true rfl) ?_
      refine z_icmp_ge C 75 dL_passes_54 (by decide) ⟨by omega, by omega⟩ ⟨by omega, by omega⟩ (fun hc3 => ?_) (fun hc3 => ?_)
      · skip
        obtain rfl : k_9 = ct.1.2.1 := by omega
        subst ha
        refine z_aload_n C 8 dL_passes_75 rfl ?_
        refine z_iload_n C 9 dL_passes_76 rfl ?_
        refine pq_pass (F := (z_lp ct mn).2) C gL_passes_X6_pass dL_passes_77 ⟨Nat.le_of_ble_eq_true rfl, Nat.le_of_ble_eq_true rfl⟩ ⟨Nat.le_of_ble_eq_true rfl, Nat.le_of_ble_eq_true rfl⟩ hx.1 htt hjt2 mn ⟨by omega, by omega⟩ rfl (Nat.le_of_ble_eq_true rfl) ?_
        obtain ⟨js4, ejs4, hjs4⟩ : ∃ j : p_J, p_st jt2 ct (z_lp ct mn).2 = j ∧ p_ok j := ⟨_, rfl, p_st_ok hjt2 hx.1 htt _⟩
        rw [ejs4]
        rw [elp]
        refine z_istore C [(9, .int (z_I ((z_ps ct mn.toNat).2))), (8, .int (z_I (x_pD ct ct.1.2.1))), (7, .int (z_I ct.2.2.2.2.2.2.2)), (6, .int (z_I ct.2.1.1)), (5, .int (z_I ct.1.2.2.2.1)), (4, .int (z_I ((z_ps ct mn.toNat).1.1.2.2.1))), (3, .int (z_I (x_si0 ct))), (2, .int (z_I ct.1.1)), (0, .ref (g 0)), (1, .int (z_I mn))] dL_passes_80 (by decide) rfl ?_
        refine z_iconst C 0 dL_passes_82 ?_
        refine z_istore C [(10, .int (z_I 0)), (9, .int (z_I ((z_ps ct mn.toNat).2))), (8, .int (z_I (x_pD ct ct.1.2.1))), (7, .int (z_I ct.2.2.2.2.2.2.2)), (6, .int (z_I ct.2.1.1)), (5, .int (z_I ct.1.2.2.2.1)), (4, .int (z_I ((z_ps ct mn.toNat).1.1.2.2.1))), (3, .int (z_I (x_si0 ct))), (2, .int (z_I ct.1.1)), (0, .ref (g 0)), (1, .int (z_I mn))] dL_passes_83 (by decide) rfl ?_
        have loop85 : ∀ (zn : Nat) (k_9 : Int) (a_9 : Int), 0 ≤ k_9 → k_9 ≤ ct.1.2.1 → a_9 = x_pD ct ct.1.2.1 - x_pD (z_ps ct mn.toNat).1 k_9 → ct.1.2.1 - k_9 < (zn : Int) → z_V p l e { frames := 5, cells := 0, slots := 0, locals := 124 } s m args below meth c D A 12 0 0 Q ((pw cI cZ cO g ((z_ps ct mn.toNat).1) js4 ++ []).flatten) 85 [(10, .int (z_I k_9)), (9, .int (z_I ((z_ps ct mn.toNat).2))), (8, .int (z_I a_9)), (7, .int (z_I ct.2.2.2.2.2.2.2)), (6, .int (z_I ct.2.1.1)), (5, .int (z_I ct.1.2.2.2.1)), (4, .int (z_I ((z_ps ct mn.toNat).1.1.2.2.1))), (3, .int (z_I (x_si0 ct))), (2, .int (z_I ct.1.1)), (0, .ref (g 0)), (1, .int (z_I mn))] [] := by
          intro zn
          induction zn with
          | zero => intro k_9 a_9 hk0 hk1 ha hm; exact absurd hm (by omega)
          | succ zn85 ih85 =>
            intro k_9 a_9 hk0 hk1 ha hm85
            have ra := x_pD_r hx2 (k := k_9) (by omega)
            have rb := x_pD_r hx (k := ct.1.2.1) (by omega)
            refine z_iload C 0 dL_passes_85 rfl ?_
            refine z_aload_n C 9 dL_passes_87 rfl ?_
            refine z_bipush C 10 dL_passes_88 (by decide) ?_
            refine pq_count (F := ((z_ps ct mn.toNat).1).1.2.1) C gL_passes_X6_count dL_passes_90 ⟨Nat.le_of_ble_eq_true rfl, Nat.le_of_ble_eq_true rfl⟩ ⟨Nat.le_of_ble_eq_true rfl, Nat.le_of_ble_eq_true rfl⟩ hx2.1 ht2 10 ⟨by omega, by omega⟩ (pa_count10 (kp := js4.1)) (Nat.le_of_ble_eq_true rfl) ?_
            refine z_icmp_ge C 114 dL_passes_93 (by decide) ⟨by omega, by omega⟩ ⟨by omega, by omega⟩ (fun hc5 => ?_) (fun hc5 => ?_)
            · skip
              obtain rfl : k_9 = ct.1.2.1 := by omega
              refine z_iload C 1 dL_passes_114 rfl ?_
              refine z_iload C 2 dL_passes_116 rfl ?_
              refine z_ineg C dL_passes_118 ?_
              refine z_icmp_ne C 172 dL_passes_119 (by decide) ⟨by omega, by omega⟩ ⟨by omega, by omega⟩ (fun hc6 => absurd hc6 (by omega)) (fun hc6 => ?_)
              refine z_iload C 1 dL_passes_122 rfl ?_
              refine z_if_lt C 172 dL_passes_124 (by decide) ⟨by omega, by omega⟩ (fun hc7 => absurd hc7 (by omega)) (fun hc7 => ?_)
              refine z_aload_n C 9 dL_passes_127 rfl ?_
              refine z_iconst C 0 dL_passes_128 ?_
              refine pq_count (F := ((z_ps ct mn.toNat).1).1.1) C gL_passes_X6_count dL_passes_129 ⟨Nat.le_of_ble_eq_true rfl, Nat.le_of_ble_eq_true rfl⟩ ⟨Nat.le_of_ble_eq_true rfl, Nat.le_of_ble_eq_true rfl⟩ hx2.1 ht2 0 ⟨by omega, by omega⟩ (pa_count0 (kp := js4.1)) (Nat.le_of_ble_eq_true rfl) ?_
              refine z_iload_n C 8 dL_passes_132 rfl ?_
              refine z_iload_n C 10 dL_passes_133 rfl ?_
              refine z_iadd C dL_passes_134 ?_
              refine z_icmp_ne C 172 dL_passes_135 (by decide) ⟨by omega, by omega⟩ ⟨by omega, by omega⟩ (fun hc8 => absurd hc8 (by omega)) (fun hc8 => ?_)
              refine z_aload_n C 9 dL_passes_138 rfl ?_
              refine z_iconst C 1 dL_passes_139 ?_
              refine pq_count (F := ((z_ps ct mn.toNat).1).1.2.2.1) C gL_passes_X6_count dL_passes_140 ⟨Nat.le_of_ble_eq_true rfl, Nat.le_of_ble_eq_true rfl⟩ ⟨Nat.le_of_ble_eq_true rfl, Nat.le_of_ble_eq_true rfl⟩ hx2.1 ht2 1 ⟨by omega, by omega⟩ (pa_count1 (kp := js4.1)) (Nat.le_of_ble_eq_true rfl) ?_
              refine z_iload C 6 dL_passes_143 rfl ?_
              refine z_icmp_ne C 172 dL_passes_145 (by decide) ⟨by omega, by omega⟩ ⟨by omega, by omega⟩ (fun hc9 => absurd hc9 (by omega)) (fun hc9 => ?_)
              refine z_aload_n C 9 dL_passes_148 rfl ?_
              refine z_iconst C 4 dL_passes_149 ?_
              refine pq_count (F := ((z_ps ct mn.toNat).1).2.1.1) C gL_passes_X6_count dL_passes_150 ⟨Nat.le_of_ble_eq_true rfl, Nat.le_of_ble_eq_true rfl⟩ ⟨Nat.le_of_ble_eq_true rfl, Nat.le_of_ble_eq_true rfl⟩ hx2.1 ht2 4 ⟨by omega, by omega⟩ (pa_count4 (kp := js4.1)) (Nat.le_of_ble_eq_true rfl) ?_
              refine z_aload_n C 9 dL_passes_153 rfl ?_
              refine z_bipush C 9 dL_passes_154 (by decide) ?_
              refine pq_count (F := ((z_ps ct mn.toNat).1).2.2.2.2.2.2.2) C gL_passes_X6_count dL_passes_156 ⟨Nat.le_of_ble_eq_true rfl, Nat.le_of_ble_eq_true rfl⟩ ⟨Nat.le_of_ble_eq_true rfl, Nat.le_of_ble_eq_true rfl⟩ hx2.1 ht2 9 ⟨by omega, by omega⟩ (pa_count9 (kp := js4.1)) (Nat.le_of_ble_eq_true rfl) ?_
              refine z_iadd C dL_passes_159 ?_
              refine z_iload C 4 dL_passes_160 rfl ?_
              refine z_iload C 3 dL_passes_162 rfl ?_
              refine z_iadd C dL_passes_164 ?_
              refine z_icmp_ne C 172 dL_passes_165 (by decide) ⟨by omega, by omega⟩ ⟨by omega, by omega⟩ (fun hc10 => absurd hc10 (by omega)) (fun hc10 => ?_)
              refine z_iconst C 1 dL_passes_168 ?_
              refine z_goto C 173 dL_passes_169 (by decide) ?_
              refine z_istore C [(10, .int (z_I 1)), (9, .int (z_I ((z_ps ct mn.toNat).2))), (8, .int (z_I a_9)), (7, .int (z_I ct.2.2.2.2.2.2.2)), (6, .int (z_I ct.2.1.1)), (5, .int (z_I ct.1.2.2.2.1)), (4, .int (z_I ((z_ps ct mn.toNat).1.1.2.2.1))), (3, .int (z_I (x_si0 ct))), (2, .int (z_I ct.1.1)), (0, .ref (g 0)), (1, .int (z_I mn))] dL_passes_173 (by decide) rfl ?_
              refine z_iload C 0 dL_passes_175 rfl ?_
              refine z_if_eq C 227 dL_passes_177 (by decide) ⟨by omega, by omega⟩ (fun hc11 => absurd hc11 (by omega)) (fun hc11 => ?_)
              refine z_iload_n C 7 dL_passes_180 rfl ?_
              refine z_iload_n C 10 dL_passes_181 rfl ?_
              refine z_icmp_le C 198 dL_passes_182 (by decide) ⟨by omega, by omega⟩ ⟨by omega, by omega⟩ (fun hc12 => ?_) (fun hc12 => ?_)
              · skip
                refine z_aload_n C 9 dL_passes_198 rfl ?_
                refine pq_stillIn (F := x_si0 ((z_ps ct mn.toNat).1)) C gL_passes_X6_stillIn dL_passes_199 ⟨Nat.le_of_ble_eq_true rfl, Nat.le_of_ble_eq_true rfl⟩ ⟨Nat.le_of_ble_eq_true rfl, Nat.le_of_ble_eq_true rfl⟩ hx2.1 ht2   pa_stillIn (Nat.le_of_ble_eq_true rfl) ?_
                obtain ⟨jt13, ejt13, hjt13⟩ : ∃ j : p_J, p_tr js4 (z_si ((z_ps ct mn.toNat).1).1 0 101).2 = j ∧ p_ok j := ⟨_, rfl, p_tr_ok hjs4 _⟩
                rw [ejt13]
                refine z_if_ne C 227 dL_passes_202 (by decide) ⟨by omega, by omega⟩ (fun hc14 => absurd hc14 (by omega)) (fun hc14 => ?_)
                refine z_aload_n C 9 dL_passes_205 rfl ?_
                refine z_iconst C 3 dL_passes_206 ?_
                refine pq_count (F := ((z_ps ct mn.toNat).1).1.2.2.2.1) C gL_passes_X6_count dL_passes_207 ⟨Nat.le_of_ble_eq_true rfl, Nat.le_of_ble_eq_true rfl⟩ ⟨Nat.le_of_ble_eq_true rfl, Nat.le_of_ble_eq_true rfl⟩ hx2.1 ht2 3 ⟨by omega, by omega⟩ (pa_count3 (kp := jt13.1)) (Nat.le_of_ble_eq_true rfl) ?_
                refine z_if_ne C 227 dL_passes_210 (by decide) ⟨by omega, by omega⟩ (fun hc15 => absurd hc15 (by omega)) (fun hc15 => ?_)
                refine z_iload C 5 dL_passes_213 rfl ?_
                refine z_if_gt C 223 dL_passes_215 (by decide) ⟨by omega, by omega⟩ (fun hc16 => ?_) (fun hc16 => ?_)
                · skip
                  refine z_iconst C 1 dL_passes_223 ?_
                  refine z_goto C 228 dL_passes_224 (by decide) ?_
                  refine z_istore C [(10, .int (z_I 1)), (9, .int (z_I ((z_ps ct mn.toNat).2))), (8, .int (z_I a_9)), (7, .int (z_I ct.2.2.2.2.2.2.2)), (6, .int (z_I ct.2.1.1)), (5, .int (z_I ct.1.2.2.2.1)), (4, .int (z_I ((z_ps ct mn.toNat).1.1.2.2.1))), (3, .int (z_I (x_si0 ct))), (2, .int (z_I ct.1.1)), (0, .ref (g 0)), (1, .int (z_I mn))] dL_passes_228 (by decide) rfl ?_
                  refine z_aload_n C 9 dL_passes_230 rfl ?_
                  refine z_iconst C 4 dL_passes_231 ?_
                  refine pq_count (F := ((z_ps ct mn.toNat).1).2.1.1) C gL_passes_X6_count dL_passes_232 ⟨Nat.le_of_ble_eq_true rfl, Nat.le_of_ble_eq_true rfl⟩ ⟨Nat.le_of_ble_eq_true rfl, Nat.le_of_ble_eq_true rfl⟩ hx2.1 ht2 4 ⟨by omega, by omega⟩ (pa_count4 (kp := jt13.1)) (Nat.le_of_ble_eq_true rfl) ?_
                  refine z_iconst C 1 dL_passes_235 ?_
                  refine z_isub C dL_passes_236 ?_
                  refine z_istore C [(11, .int (z_I ((((z_ps ct mn.toNat).1).2.1.1) - 1))), (10, .int (z_I 1)), (9, .int (z_I ((z_ps ct mn.toNat).2))), (8, .int (z_I a_9)), (7, .int (z_I ct.2.2.2.2.2.2.2)), (6, .int (z_I ct.2.1.1)), (5, .int (z_I ct.1.2.2.2.1)), (4, .int (z_I ((z_ps ct mn.toNat).1.1.2.2.1))), (3, .int (z_I (x_si0 ct))), (2, .int (z_I ct.1.1)), (0, .ref (g 0)), (1, .int (z_I mn))] dL_passes_237 (by decide) rfl ?_
                  refine z_iload C 1 dL_passes_239 rfl ?_
                  refine z_if_eq C 293 dL_passes_241 (by decide) ⟨by omega, by omega⟩ (fun hc17 => absurd hc17 (by omega)) (fun hc17 => ?_)
                  refine z_aload_n C 10 dL_passes_244 rfl ?_
                  refine z_iconst C 4 dL_passes_245 ?_
                  refine pq_count (F := ((z_ps ct mn.toNat).1).2.1.1) C gL_passes_X6_count dL_passes_246 ⟨Nat.le_of_ble_eq_true rfl, Nat.le_of_ble_eq_true rfl⟩ ⟨Nat.le_of_ble_eq_true rfl, Nat.le_of_ble_eq_true rfl⟩ hx2.1 ht2 4 ⟨by omega, by omega⟩ (pa_count4 (kp := jt13.1)) (Nat.le_of_ble_eq_true rfl) ?_
                  refine z_iload C 5 dL_passes_249 rfl ?_
                  refine z_icmp_eq C 289 dL_passes_251 (by decide) ⟨by omega, by omega⟩ ⟨by omega, by omega⟩ (fun hc18 => ?_) (fun hc18 => ?_)
                  · skip
                    refine z_iconst C 1 dL_passes_289 ?_
                    refine z_goto C 294 dL_passes_290 (by decide) ?_
                    exact z_zrete C hQ jt13 rfl ⟨rfl, hjt13⟩ (Or.inr rfl) dL_passes_294
                  · skip
                    obtain ⟨l1, l2, l3, l4, l5, l6⟩ := lat.resolve_left (fun q => hc18 q.1)
                    have ei : (z_ps ct mn.toNat).1.2.1.1 - 1 = ct.2.1.1 := by omega
                    rw [← ei] at l4 l5 l6
                    obtain ⟨-, -, tj2⟩ := hx2.1.2.1.2.1 ((z_ps ct mn.toNat).1.2.1.1 - 1) (by omega) (by omega)
                    have hl3 : (if (z_ps ct mn.toNat).1.2.1.2.2.2.2 ((z_ps ct mn.toNat).1.2.1.1 - 1) = 0 then (0 : Int) else 1) = 1 := by rw [l4]; rfl
                    refine z_aload_n C 10 dL_passes_254 rfl ?_
                    refine z_iload C 0 dL_passes_255 rfl ?_
                    refine z_iconst C 3 dL_passes_257 ?_
                    refine pq_reading (F := if ((z_ps ct mn.toNat).1).2.1.2.2.2.2 ((((z_ps ct mn.toNat).1).2.1.1) - 1) = 0 then 0 else 1) C gL_passes_X6_reading dL_passes_258 ⟨Nat.le_of_ble_eq_true rfl, Nat.le_of_ble_eq_true rfl⟩ ⟨Nat.le_of_ble_eq_true rfl, Nat.le_of_ble_eq_true rfl⟩ hx2.1 ht2 ((((z_ps ct mn.toNat).1).2.1.1) - 1) 3 ⟨by omega, by omega⟩ ⟨by omega, by omega⟩ (pa_reading3 (by omega)) (Nat.le_of_ble_eq_true rfl) ?_
                    refine z_iconst C 1 dL_passes_261 ?_
                    refine z_icmp_ne C 293 dL_passes_262 (by decide) ⟨by omega, by omega⟩ ⟨by omega, by omega⟩ (fun hc19 => absurd hc19 (by omega)) (fun hc19 => ?_)
                    refine z_aload_n C 10 dL_passes_265 rfl ?_
                    refine z_iload C 0 dL_passes_266 rfl ?_
                    refine z_iconst C 1 dL_passes_268 ?_
                    refine pq_reading (F := ((z_ps ct mn.toNat).1).2.1.2.2.1 ((((z_ps ct mn.toNat).1).2.1.1) - 1)) C gL_passes_X6_reading dL_passes_269 ⟨Nat.le_of_ble_eq_true rfl, Nat.le_of_ble_eq_true rfl⟩ ⟨Nat.le_of_ble_eq_true rfl, Nat.le_of_ble_eq_true rfl⟩ hx2.1 ht2 ((((z_ps ct mn.toNat).1).2.1.1) - 1) 1 ⟨by omega, by omega⟩ ⟨by omega, by omega⟩ (pa_reading1 (by omega)) (Nat.le_of_ble_eq_true rfl) ?_
                    refine z_iload_n C 9 dL_passes_272 rfl ?_
                    refine z_iload_n C 11 dL_passes_273 rfl ?_
                    refine z_iadd C dL_passes_274 ?_
                    refine z_icmp_ge C 293 dL_passes_275 (by decide) ⟨by omega, by omega⟩ ⟨by omega, by omega⟩ (fun hc20 => absurd hc20 (by omega)) (fun hc20 => ?_)
                    refine z_aload_n C 10 dL_passes_278 rfl ?_
                    refine z_iload C 0 dL_passes_279 rfl ?_
                    refine z_iconst C 4 dL_passes_281 ?_
                    refine pq_reading (F := 1) C gL_passes_X6_reading dL_passes_282 ⟨Nat.le_of_ble_eq_true rfl, Nat.le_of_ble_eq_true rfl⟩ ⟨Nat.le_of_ble_eq_true rfl, Nat.le_of_ble_eq_true rfl⟩ hx2.1 ht2 ((((z_ps ct mn.toNat).1).2.1.1) - 1) 4 ⟨by omega, by omega⟩ ⟨by omega, by omega⟩ (pa_reading4y (by omega) l6) (Nat.le_of_ble_eq_true rfl) ?_
                    refine z_iconst C 1 dL_passes_285 ?_
                    refine z_icmp_ne C 293 dL_passes_286 (by decide) ⟨by omega, by omega⟩ ⟨by omega, by omega⟩ (fun hc21 => absurd hc21 (by omega)) (fun hc21 => ?_)
                    refine z_iconst C 1 dL_passes_289 ?_
                    refine z_goto C 294 dL_passes_290 (by decide) ?_
                    exact z_zrete C hQ jt13 rfl ⟨rfl, hjt13⟩ (Or.inr rfl) dL_passes_294
                · skip
                  refine z_iload C 1 dL_passes_218 rfl ?_
                  refine z_if_ne C 227 dL_passes_220 (by decide) ⟨by omega, by omega⟩ (fun hc22 => absurd hc22 (by omega)) (fun hc22 => ?_)
                  refine z_iconst C 1 dL_passes_223 ?_
                  refine z_goto C 228 dL_passes_224 (by decide) ?_
                  refine z_istore C [(10, .int (z_I 1)), (9, .int (z_I ((z_ps ct mn.toNat).2))), (8, .int (z_I a_9)), (7, .int (z_I ct.2.2.2.2.2.2.2)), (6, .int (z_I ct.2.1.1)), (5, .int (z_I ct.1.2.2.2.1)), (4, .int (z_I ((z_ps ct mn.toNat).1.1.2.2.1))), (3, .int (z_I (x_si0 ct))), (2, .int (z_I ct.1.1)), (0, .ref (g 0)), (1, .int (z_I mn))] dL_passes_228 (by decide) rfl ?_
                  refine z_aload_n C 9 dL_passes_230 rfl ?_
                  refine z_iconst C 4 dL_passes_231 ?_
                  refine pq_count (F := ((z_ps ct mn.toNat).1).2.1.1) C gL_passes_X6_count dL_passes_232 ⟨Nat.le_of_ble_eq_true rfl, Nat.le_of_ble_eq_true rfl⟩ ⟨Nat.le_of_ble_eq_true rfl, Nat.le_of_ble_eq_true rfl⟩ hx2.1 ht2 4 ⟨by omega, by omega⟩ (pa_count4 (kp := jt13.1)) (Nat.le_of_ble_eq_true rfl) ?_
                  refine z_iconst C 1 dL_passes_235 ?_
                  refine z_isub C dL_passes_236 ?_
                  refine z_istore C [(11, .int (z_I ((((z_ps ct mn.toNat).1).2.1.1) - 1))), (10, .int (z_I 1)), (9, .int (z_I ((z_ps ct mn.toNat).2))), (8, .int (z_I a_9)), (7, .int (z_I ct.2.2.2.2.2.2.2)), (6, .int (z_I ct.2.1.1)), (5, .int (z_I ct.1.2.2.2.1)), (4, .int (z_I ((z_ps ct mn.toNat).1.1.2.2.1))), (3, .int (z_I (x_si0 ct))), (2, .int (z_I ct.1.1)), (0, .ref (g 0)), (1, .int (z_I mn))] dL_passes_237 (by decide) rfl ?_
                  refine z_iload C 1 dL_passes_239 rfl ?_
                  refine z_if_eq C 293 dL_passes_241 (by decide) ⟨by omega, by omega⟩ (fun hc23 => absurd hc23 (by omega)) (fun hc23 => ?_)
                  refine z_aload_n C 10 dL_passes_244 rfl ?_
                  refine z_iconst C 4 dL_passes_245 ?_
                  refine pq_count (F := ((z_ps ct mn.toNat).1).2.1.1) C gL_passes_X6_count dL_passes_246 ⟨Nat.le_of_ble_eq_true rfl, Nat.le_of_ble_eq_true rfl⟩ ⟨Nat.le_of_ble_eq_true rfl, Nat.le_of_ble_eq_true rfl⟩ hx2.1 ht2 4 ⟨by omega, by omega⟩ (pa_count4 (kp := jt13.1)) (Nat.le_of_ble_eq_true rfl) ?_
                  refine z_iload C 5 dL_passes_249 rfl ?_
                  refine z_icmp_eq C 289 dL_passes_251 (by decide) ⟨by omega, by omega⟩ ⟨by omega, by omega⟩ (fun hc24 => ?_) (fun hc24 => ?_)
                  · skip
                    refine z_iconst C 1 dL_passes_289 ?_
                    refine z_goto C 294 dL_passes_290 (by decide) ?_
                    exact z_zrete C hQ jt13 rfl ⟨rfl, hjt13⟩ (Or.inr rfl) dL_passes_294
                  · skip
                    obtain ⟨l1, l2, l3, l4, l5, l6⟩ := lat.resolve_left (fun q => hc24 q.1)
                    have ei : (z_ps ct mn.toNat).1.2.1.1 - 1 = ct.2.1.1 := by omega
                    rw [← ei] at l4 l5 l6
                    obtain ⟨-, -, tj2⟩ := hx2.1.2.1.2.1 ((z_ps ct mn.toNat).1.2.1.1 - 1) (by omega) (by omega)
                    have hl3 : (if (z_ps ct mn.toNat).1.2.1.2.2.2.2 ((z_ps ct mn.toNat).1.2.1.1 - 1) = 0 then (0 : Int) else 1) = 1 := by rw [l4]; rfl
                    refine z_aload_n C 10 dL_passes_254 rfl ?_
                    refine z_iload C 0 dL_passes_255 rfl ?_
                    refine z_iconst C 3 dL_passes_257 ?_
                    refine pq_reading (F := if ((z_ps ct mn.toNat).1).2.1.2.2.2.2 ((((z_ps ct mn.toNat).1).2.1.1) - 1) = 0 then 0 else 1) C gL_passes_X6_reading dL_passes_258 ⟨Nat.le_of_ble_eq_true rfl, Nat.le_of_ble_eq_true rfl⟩ ⟨Nat.le_of_ble_eq_true rfl, Nat.le_of_ble_eq_true rfl⟩ hx2.1 ht2 ((((z_ps ct mn.toNat).1).2.1.1) - 1) 3 ⟨by omega, by omega⟩ ⟨by omega, by omega⟩ (pa_reading3 (by omega)) (Nat.le_of_ble_eq_true rfl) ?_
                    refine z_iconst C 1 dL_passes_261 ?_
                    refine z_icmp_ne C 293 dL_passes_262 (by decide) ⟨by omega, by omega⟩ ⟨by omega, by omega⟩ (fun hc25 => absurd hc25 (by omega)) (fun hc25 => ?_)
                    refine z_aload_n C 10 dL_passes_265 rfl ?_
                    refine z_iload C 0 dL_passes_266 rfl ?_
                    refine z_iconst C 1 dL_passes_268 ?_
                    refine pq_reading (F := ((z_ps ct mn.toNat).1).2.1.2.2.1 ((((z_ps ct mn.toNat).1).2.1.1) - 1)) C gL_passes_X6_reading dL_passes_269 ⟨Nat.le_of_ble_eq_true rfl, Nat.le_of_ble_eq_true rfl⟩ ⟨Nat.le_of_ble_eq_true rfl, Nat.le_of_ble_eq_true rfl⟩ hx2.1 ht2 ((((z_ps ct mn.toNat).1).2.1.1) - 1) 1 ⟨by omega, by omega⟩ ⟨by omega, by omega⟩ (pa_reading1 (by omega)) (Nat.le_of_ble_eq_true rfl) ?_
                    refine z_iload_n C 9 dL_passes_272 rfl ?_
                    refine z_iload_n C 11 dL_passes_273 rfl ?_
                    refine z_iadd C dL_passes_274 ?_
                    refine z_icmp_ge C 293 dL_passes_275 (by decide) ⟨by omega, by omega⟩ ⟨by omega, by omega⟩ (fun hc26 => absurd hc26 (by omega)) (fun hc26 => ?_)
                    refine z_aload_n C 10 dL_passes_278 rfl ?_
                    refine z_iload C 0 dL_passes_279 rfl ?_
                    refine z_iconst C 4 dL_passes_281 ?_
                    refine pq_reading (F := 1) C gL_passes_X6_reading dL_passes_282 ⟨Nat.le_of_ble_eq_true rfl, Nat.le_of_ble_eq_true rfl⟩ ⟨Nat.le_of_ble_eq_true rfl, Nat.le_of_ble_eq_true rfl⟩ hx2.1 ht2 ((((z_ps ct mn.toNat).1).2.1.1) - 1) 4 ⟨by omega, by omega⟩ ⟨by omega, by omega⟩ (pa_reading4y (by omega) l6) (Nat.le_of_ble_eq_true rfl) ?_
                    refine z_iconst C 1 dL_passes_285 ?_
                    refine z_icmp_ne C 293 dL_passes_286 (by decide) ⟨by omega, by omega⟩ ⟨by omega, by omega⟩ (fun hc27 => absurd hc27 (by omega)) (fun hc27 => ?_)
                    refine z_iconst C 1 dL_passes_289 ?_
                    refine z_goto C 294 dL_passes_290 (by decide) ?_
                    exact z_zrete C hQ jt13 rfl ⟨rfl, hjt13⟩ (Or.inr rfl) dL_passes_294
              · skip
                refine z_aload_n C 9 dL_passes_185 rfl ?_
                refine pq_stillIn (F := x_si0 ((z_ps ct mn.toNat).1)) C gL_passes_X6_stillIn dL_passes_186 ⟨Nat.le_of_ble_eq_true rfl, Nat.le_of_ble_eq_true rfl⟩ ⟨Nat.le_of_ble_eq_true rfl, Nat.le_of_ble_eq_true rfl⟩ hx2.1 ht2   pa_stillIn (Nat.le_of_ble_eq_true rfl) ?_
                obtain ⟨jt28, ejt28, hjt28⟩ : ∃ j : p_J, p_tr js4 (z_si ((z_ps ct mn.toNat).1).1 0 101).2 = j ∧ p_ok j := ⟨_, rfl, p_tr_ok hjs4 _⟩
                rw [ejt28]
                refine z_iload_n C 7 dL_passes_189 rfl ?_
                refine z_iload_n C 10 dL_passes_190 rfl ?_
                refine z_isub C dL_passes_191 ?_
                refine z_icmp_ne C 227 dL_passes_192 (by decide) ⟨by omega, by omega⟩ ⟨by omega, by omega⟩ (fun hc29 => absurd hc29 (by omega)) (fun hc29 => ?_)
                refine z_goto C 213 dL_passes_195 (by decide) ?_
                refine z_iload C 5 dL_passes_213 rfl ?_
                refine z_if_gt C 223 dL_passes_215 (by decide) ⟨by omega, by omega⟩ (fun hc30 => ?_) (fun hc30 => ?_)
                · skip
                  refine z_iconst C 1 dL_passes_223 ?_
                  refine z_goto C 228 dL_passes_224 (by decide) ?_
                  refine z_istore C [(10, .int (z_I 1)), (9, .int (z_I ((z_ps ct mn.toNat).2))), (8, .int (z_I a_9)), (7, .int (z_I ct.2.2.2.2.2.2.2)), (6, .int (z_I ct.2.1.1)), (5, .int (z_I ct.1.2.2.2.1)), (4, .int (z_I ((z_ps ct mn.toNat).1.1.2.2.1))), (3, .int (z_I (x_si0 ct))), (2, .int (z_I ct.1.1)), (0, .ref (g 0)), (1, .int (z_I mn))] dL_passes_228 (by decide) rfl ?_
                  refine z_aload_n C 9 dL_passes_230 rfl ?_
                  refine z_iconst C 4 dL_passes_231 ?_
                  refine pq_count (F := ((z_ps ct mn.toNat).1).2.1.1) C gL_passes_X6_count dL_passes_232 ⟨Nat.le_of_ble_eq_true rfl, Nat.le_of_ble_eq_true rfl⟩ ⟨Nat.le_of_ble_eq_true rfl, Nat.le_of_ble_eq_true rfl⟩ hx2.1 ht2 4 ⟨by omega, by omega⟩ (pa_count4 (kp := jt28.1)) (Nat.le_of_ble_eq_true rfl) ?_
                  refine z_iconst C 1 dL_passes_235 ?_
                  refine z_isub C dL_passes_236 ?_
                  refine z_istore C [(11, .int (z_I ((((z_ps ct mn.toNat).1).2.1.1) - 1))), (10, .int (z_I 1)), (9, .int (z_I ((z_ps ct mn.toNat).2))), (8, .int (z_I a_9)), (7, .int (z_I ct.2.2.2.2.2.2.2)), (6, .int (z_I ct.2.1.1)), (5, .int (z_I ct.1.2.2.2.1)), (4, .int (z_I ((z_ps ct mn.toNat).1.1.2.2.1))), (3, .int (z_I (x_si0 ct))), (2, .int (z_I ct.1.1)), (0, .ref (g 0)), (1, .int (z_I mn))] dL_passes_237 (by decide) rfl ?_
                  refine z_iload C 1 dL_passes_239 rfl ?_
                  refine z_if_eq C 293 dL_passes_241 (by decide) ⟨by omega, by omega⟩ (fun hc31 => absurd hc31 (by omega)) (fun hc31 => ?_)
                  refine z_aload_n C 10 dL_passes_244 rfl ?_
                  refine z_iconst C 4 dL_passes_245 ?_
                  refine pq_count (F := ((z_ps ct mn.toNat).1).2.1.1) C gL_passes_X6_count dL_passes_246 ⟨Nat.le_of_ble_eq_true rfl, Nat.le_of_ble_eq_true rfl⟩ ⟨Nat.le_of_ble_eq_true rfl, Nat.le_of_ble_eq_true rfl⟩ hx2.1 ht2 4 ⟨by omega, by omega⟩ (pa_count4 (kp := jt28.1)) (Nat.le_of_ble_eq_true rfl) ?_
                  refine z_iload C 5 dL_passes_249 rfl ?_
                  refine z_icmp_eq C 289 dL_passes_251 (by decide) ⟨by omega, by omega⟩ ⟨by omega, by omega⟩ (fun hc32 => ?_) (fun hc32 => ?_)
                  · skip
                    refine z_iconst C 1 dL_passes_289 ?_
                    refine z_goto C 294 dL_passes_290 (by decide) ?_
                    exact z_zrete C hQ jt28 rfl ⟨rfl, hjt28⟩ (Or.inr rfl) dL_passes_294
                  · skip
                    obtain ⟨l1, l2, l3, l4, l5, l6⟩ := lat.resolve_left (fun q => hc32 q.1)
                    have ei : (z_ps ct mn.toNat).1.2.1.1 - 1 = ct.2.1.1 := by omega
                    rw [← ei] at l4 l5 l6
                    obtain ⟨-, -, tj2⟩ := hx2.1.2.1.2.1 ((z_ps ct mn.toNat).1.2.1.1 - 1) (by omega) (by omega)
                    have hl3 : (if (z_ps ct mn.toNat).1.2.1.2.2.2.2 ((z_ps ct mn.toNat).1.2.1.1 - 1) = 0 then (0 : Int) else 1) = 1 := by rw [l4]; rfl
                    refine z_aload_n C 10 dL_passes_254 rfl ?_
                    refine z_iload C 0 dL_passes_255 rfl ?_
                    refine z_iconst C 3 dL_passes_257 ?_
                    refine pq_reading (F := if ((z_ps ct mn.toNat).1).2.1.2.2.2.2 ((((z_ps ct mn.toNat).1).2.1.1) - 1) = 0 then 0 else 1) C gL_passes_X6_reading dL_passes_258 ⟨Nat.le_of_ble_eq_true rfl, Nat.le_of_ble_eq_true rfl⟩ ⟨Nat.le_of_ble_eq_true rfl, Nat.le_of_ble_eq_true rfl⟩ hx2.1 ht2 ((((z_ps ct mn.toNat).1).2.1.1) - 1) 3 ⟨by omega, by omega⟩ ⟨by omega, by omega⟩ (pa_reading3 (by omega)) (Nat.le_of_ble_eq_true rfl) ?_
                    refine z_iconst C 1 dL_passes_261 ?_
                    refine z_icmp_ne C 293 dL_passes_262 (by decide) ⟨by omega, by omega⟩ ⟨by omega, by omega⟩ (fun hc33 => absurd hc33 (by omega)) (fun hc33 => ?_)
                    refine z_aload_n C 10 dL_passes_265 rfl ?_
                    refine z_iload C 0 dL_passes_266 rfl ?_
                    refine z_iconst C 1 dL_passes_268 ?_
                    refine pq_reading (F := ((z_ps ct mn.toNat).1).2.1.2.2.1 ((((z_ps ct mn.toNat).1).2.1.1) - 1)) C gL_passes_X6_reading dL_passes_269 ⟨Nat.le_of_ble_eq_true rfl, Nat.le_of_ble_eq_true rfl⟩ ⟨Nat.le_of_ble_eq_true rfl, Nat.le_of_ble_eq_true rfl⟩ hx2.1 ht2 ((((z_ps ct mn.toNat).1).2.1.1) - 1) 1 ⟨by omega, by omega⟩ ⟨by omega, by omega⟩ (pa_reading1 (by omega)) (Nat.le_of_ble_eq_true rfl) ?_
                    refine z_iload_n C 9 dL_passes_272 rfl ?_
                    refine z_iload_n C 11 dL_passes_273 rfl ?_
                    refine z_iadd C dL_passes_274 ?_
                    refine z_icmp_ge C 293 dL_passes_275 (by decide) ⟨by omega, by omega⟩ ⟨by omega, by omega⟩ (fun hc34 => absurd hc34 (by omega)) (fun hc34 => ?_)
                    refine z_aload_n C 10 dL_passes_278 rfl ?_
                    refine z_iload C 0 dL_passes_279 rfl ?_
                    refine z_iconst C 4 dL_passes_281 ?_
                    refine pq_reading (F := 1) C gL_passes_X6_reading dL_passes_282 ⟨Nat.le_of_ble_eq_true rfl, Nat.le_of_ble_eq_true rfl⟩ ⟨Nat.le_of_ble_eq_true rfl, Nat.le_of_ble_eq_true rfl⟩ hx2.1 ht2 ((((z_ps ct mn.toNat).1).2.1.1) - 1) 4 ⟨by omega, by omega⟩ ⟨by omega, by omega⟩ (pa_reading4y (by omega) l6) (Nat.le_of_ble_eq_true rfl) ?_
                    refine z_iconst C 1 dL_passes_285 ?_
                    refine z_icmp_ne C 293 dL_passes_286 (by decide) ⟨by omega, by omega⟩ ⟨by omega, by omega⟩ (fun hc35 => absurd hc35 (by omega)) (fun hc35 => ?_)
                    refine z_iconst C 1 dL_passes_289 ?_
                    refine z_goto C 294 dL_passes_290 (by decide) ?_
                    exact z_zrete C hQ jt28 rfl ⟨rfl, hjt28⟩ (Or.inr rfl) dL_passes_294
                · skip
                  refine z_iload C 1 dL_passes_218 rfl ?_
                  refine z_if_ne C 227 dL_passes_220 (by decide) ⟨by omega, by omega⟩ (fun hc36 => absurd hc36 (by omega)) (fun hc36 => ?_)
                  refine z_iconst C 1 dL_passes_223 ?_
                  refine z_goto C 228 dL_passes_224 (by decide) ?_
                  refine z_istore C [(10, .int (z_I 1)), (9, .int (z_I ((z_ps ct mn.toNat).2))), (8, .int (z_I a_9)), (7, .int (z_I ct.2.2.2.2.2.2.2)), (6, .int (z_I ct.2.1.1)), (5, .int (z_I ct.1.2.2.2.1)), (4, .int (z_I ((z_ps ct mn.toNat).1.1.2.2.1))), (3, .int (z_I (x_si0 ct))), (2, .int (z_I ct.1.1)), (0, .ref (g 0)), (1, .int (z_I mn))] dL_passes_228 (by decide) rfl ?_
                  refine z_aload_n C 9 dL_passes_230 rfl ?_
                  refine z_iconst C 4 dL_passes_231 ?_
                  refine pq_count (F := ((z_ps ct mn.toNat).1).2.1.1) C gL_passes_X6_count dL_passes_232 ⟨Nat.le_of_ble_eq_true rfl, Nat.le_of_ble_eq_true rfl⟩ ⟨Nat.le_of_ble_eq_true rfl, Nat.le_of_ble_eq_true rfl⟩ hx2.1 ht2 4 ⟨by omega, by omega⟩ (pa_count4 (kp := jt28.1)) (Nat.le_of_ble_eq_true rfl) ?_
                  refine z_iconst C 1 dL_passes_235 ?_
                  refine z_isub C dL_passes_236 ?_
                  refine z_istore C [(11, .int (z_I ((((z_ps ct mn.toNat).1).2.1.1) - 1))), (10, .int (z_I 1)), (9, .int (z_I ((z_ps ct mn.toNat).2))), (8, .int (z_I a_9)), (7, .int (z_I ct.2.2.2.2.2.2.2)), (6, .int (z_I ct.2.1.1)), (5, .int (z_I ct.1.2.2.2.1)), (4, .int (z_I ((z_ps ct mn.toNat).1.1.2.2.1))), (3, .int (z_I (x_si0 ct))), (2, .int (z_I ct.1.1)), (0, .ref (g 0)), (1, .int (z_I mn))] dL_passes_237 (by decide) rfl ?_
                  refine z_iload C 1 dL_passes_239 rfl ?_
                  refine z_if_eq C 293 dL_passes_241 (by decide) ⟨by omega, by omega⟩ (fun hc37 => absurd hc37 (by omega)) (fun hc37 => ?_)
                  refine z_aload_n C 10 dL_passes_244 rfl ?_
                  refine z_iconst C 4 dL_passes_245 ?_
                  refine pq_count (F := ((z_ps ct mn.toNat).1).2.1.1) C gL_passes_X6_count dL_passes_246 ⟨Nat.le_of_ble_eq_true rfl, Nat.le_of_ble_eq_true rfl⟩ ⟨Nat.le_of_ble_eq_true rfl, Nat.le_of_ble_eq_true rfl⟩ hx2.1 ht2 4 ⟨by omega, by omega⟩ (pa_count4 (kp := jt28.1)) (Nat.le_of_ble_eq_true rfl) ?_
                  refine z_iload C 5 dL_passes_249 rfl ?_
                  refine z_icmp_eq C 289 dL_passes_251 (by decide) ⟨by omega, by omega⟩ ⟨by omega, by omega⟩ (fun hc38 => ?_) (fun hc38 => ?_)
                  · skip
                    refine z_iconst C 1 dL_passes_289 ?_
                    refine z_goto C 294 dL_passes_290 (by decide) ?_
                    exact z_zrete C hQ jt28 rfl ⟨rfl, hjt28⟩ (Or.inr rfl) dL_passes_294
                  · skip
                    obtain ⟨l1, l2, l3, l4, l5, l6⟩ := lat.resolve_left (fun q => hc38 q.1)
                    have ei : (z_ps ct mn.toNat).1.2.1.1 - 1 = ct.2.1.1 := by omega
                    rw [← ei] at l4 l5 l6
                    obtain ⟨-, -, tj2⟩ := hx2.1.2.1.2.1 ((z_ps ct mn.toNat).1.2.1.1 - 1) (by omega) (by omega)
                    have hl3 : (if (z_ps ct mn.toNat).1.2.1.2.2.2.2 ((z_ps ct mn.toNat).1.2.1.1 - 1) = 0 then (0 : Int) else 1) = 1 := by rw [l4]; rfl
                    refine z_aload_n C 10 dL_passes_254 rfl ?_
                    refine z_iload C 0 dL_passes_255 rfl ?_
                    refine z_iconst C 3 dL_passes_257 ?_
                    refine pq_reading (F := if ((z_ps ct mn.toNat).1).2.1.2.2.2.2 ((((z_ps ct mn.toNat).1).2.1.1) - 1) = 0 then 0 else 1) C gL_passes_X6_reading dL_passes_258 ⟨Nat.le_of_ble_eq_true rfl, Nat.le_of_ble_eq_true rfl⟩ ⟨Nat.le_of_ble_eq_true rfl, Nat.le_of_ble_eq_true rfl⟩ hx2.1 ht2 ((((z_ps ct mn.toNat).1).2.1.1) - 1) 3 ⟨by omega, by omega⟩ ⟨by omega, by omega⟩ (pa_reading3 (by omega)) (Nat.le_of_ble_eq_true rfl) ?_
                    refine z_iconst C 1 dL_passes_261 ?_
                    refine z_icmp_ne C 293 dL_passes_262 (by decide) ⟨by omega, by omega⟩ ⟨by omega, by omega⟩ (fun hc39 => absurd hc39 (by omega)) (fun hc39 => ?_)
                    refine z_aload_n C 10 dL_passes_265 rfl ?_
                    refine z_iload C 0 dL_passes_266 rfl ?_
                    refine z_iconst C 1 dL_passes_268 ?_
                    refine pq_reading (F := ((z_ps ct mn.toNat).1).2.1.2.2.1 ((((z_ps ct mn.toNat).1).2.1.1) - 1)) C gL_passes_X6_reading dL_passes_269 ⟨Nat.le_of_ble_eq_true rfl, Nat.le_of_ble_eq_true rfl⟩ ⟨Nat.le_of_ble_eq_true rfl, Nat.le_of_ble_eq_true rfl⟩ hx2.1 ht2 ((((z_ps ct mn.toNat).1).2.1.1) - 1) 1 ⟨by omega, by omega⟩ ⟨by omega, by omega⟩ (pa_reading1 (by omega)) (Nat.le_of_ble_eq_true rfl) ?_
                    refine z_iload_n C 9 dL_passes_272 rfl ?_
                    refine z_iload_n C 11 dL_passes_273 rfl ?_
                    refine z_iadd C dL_passes_274 ?_
                    refine z_icmp_ge C 293 dL_passes_275 (by decide) ⟨by omega, by omega⟩ ⟨by omega, by omega⟩ (fun hc40 => absurd hc40 (by omega)) (fun hc40 => ?_)
                    refine z_aload_n C 10 dL_passes_278 rfl ?_
                    refine z_iload C 0 dL_passes_279 rfl ?_
                    refine z_iconst C 4 dL_passes_281 ?_
                    refine pq_reading (F := 1) C gL_passes_X6_reading dL_passes_282 ⟨Nat.le_of_ble_eq_true rfl, Nat.le_of_ble_eq_true rfl⟩ ⟨Nat.le_of_ble_eq_true rfl, Nat.le_of_ble_eq_true rfl⟩ hx2.1 ht2 ((((z_ps ct mn.toNat).1).2.1.1) - 1) 4 ⟨by omega, by omega⟩ ⟨by omega, by omega⟩ (pa_reading4y (by omega) l6) (Nat.le_of_ble_eq_true rfl) ?_
                    refine z_iconst C 1 dL_passes_285 ?_
                    refine z_icmp_ne C 293 dL_passes_286 (by decide) ⟨by omega, by omega⟩ ⟨by omega, by omega⟩ (fun hc41 => absurd hc41 (by omega)) (fun hc41 => ?_)
                    refine z_iconst C 1 dL_passes_289 ?_
                    refine z_goto C 294 dL_passes_290 (by decide) ?_
                    exact z_zrete C hQ jt28 rfl ⟨rfl, hjt28⟩ (Or.inr rfl) dL_passes_294
            · skip
              refine z_iload C 2 dL_passes_96 rfl ?_
              refine z_aload_n C 9 dL_passes_98 rfl ?_
              refine z_iload C 0 dL_passes_99 rfl ?_
              refine z_iconst C 4 dL_passes_101 ?_
              refine pq_of (F := ((z_ps ct mn.toNat).1).1.2.2.2.2.2.1 k_9) C gL_passes_X6_of dL_passes_102 ⟨Nat.le_of_ble_eq_true rfl, Nat.le_of_ble_eq_true rfl⟩ ⟨Nat.le_of_ble_eq_true rfl, Nat.le_of_ble_eq_true rfl⟩ hx2.1 ht2 k_9 4 ⟨by omega, by omega⟩ ⟨by omega, by omega⟩ (pa_of4 (by omega)) (Nat.le_of_ble_eq_true rfl) ?_
              refine z_isub C dL_passes_105 ?_
              refine z_istore C [(8, .int (z_I (a_9 - (((z_ps ct mn.toNat).1).1.2.2.2.2.2.1 k_9)))), (10, .int (z_I k_9)), (9, .int (z_I ((z_ps ct mn.toNat).2))), (7, .int (z_I ct.2.2.2.2.2.2.2)), (6, .int (z_I ct.2.1.1)), (5, .int (z_I ct.1.2.2.2.1)), (4, .int (z_I ((z_ps ct mn.toNat).1.1.2.2.1))), (3, .int (z_I (x_si0 ct))), (2, .int (z_I ct.1.1)), (0, .ref (g 0)), (1, .int (z_I mn))] dL_passes_106 (by decide) rfl ?_
              refine z_iinc C 1 [(10, .int (z_I (k_9 + 1))), (8, .int (z_I (a_9 - (((z_ps ct mn.toNat).1).1.2.2.2.2.2.1 k_9)))), (9, .int (z_I ((z_ps ct mn.toNat).2))), (7, .int (z_I ct.2.2.2.2.2.2.2)), (6, .int (z_I ct.2.1.1)), (5, .int (z_I ct.1.2.2.2.1)), (4, .int (z_I ((z_ps ct mn.toNat).1.1.2.2.1))), (3, .int (z_I (x_si0 ct))), (2, .int (z_I ct.1.1)), (0, .ref (g 0)), (1, .int (z_I mn))] dL_passes_108 rfl (by decide) rfl ?_
              refine z_goto C 85 dL_passes_111 (by decide) ?_
              refine z_lsub [(10, .int (z_I (k_9 + 1))), (9, .int (z_I ((z_ps ct mn.toNat).2))), (8, .int (z_I (a_9 - (((z_ps ct mn.toNat).1).1.2.2.2.2.2.1 k_9)))), (7, .int (z_I ct.2.2.2.2.2.2.2)), (6, .int (z_I ct.2.1.1)), (5, .int (z_I ct.1.2.2.2.1)), (4, .int (z_I ((z_ps ct mn.toNat).1.1.2.2.1))), (3, .int (z_I (x_si0 ct))), (2, .int (z_I ct.1.1)), (0, .ref (g 0)), (1, .int (z_I mn))] [0, 2, 1, 3, 4, 5, 6, 7, 8, 9, 10] rfl ?_
              exact ih85 (k_9 + 1) (a_9 - (z_ps ct mn.toNat).1.1.2.2.2.2.2.1 k_9) (by first | assumption | omega) (by first | assumption | omega) (by rw [x_pD_s hk0, ha]; omega) (by omega)
        exact loop85 6 0 (x_pD ct ct.1.2.1) (by first | assumption | omega) (by first | assumption | omega) (by show _ = _ - 0; omega) (by omega)
      · skip
        refine z_iload C 1 dL_passes_57 rfl ?_
        refine z_aload_n C 8 dL_passes_59 rfl ?_
        refine z_iload C 0 dL_passes_60 rfl ?_
        refine z_iconst C 4 dL_passes_62 ?_
        refine pq_of (F := ct.1.2.2.2.2.2.1 k_9) C gL_passes_X6_of dL_passes_63 ⟨Nat.le_of_ble_eq_true rfl, Nat.le_of_ble_eq_true rfl⟩ ⟨Nat.le_of_ble_eq_true rfl, Nat.le_of_ble_eq_true rfl⟩ hx.1 htt k_9 4 ⟨by omega, by omega⟩ ⟨by omega, by omega⟩ (pa_of4 (by omega)) (Nat.le_of_ble_eq_true rfl) ?_
        refine z_iadd C dL_passes_66 ?_
        refine z_istore C [(8, .int (z_I (a_9 + (ct.1.2.2.2.2.2.1 k_9)))), (9, .int (z_I k_9)), (7, .int (z_I ct.2.2.2.2.2.2.2)), (6, .int (z_I ct.2.1.1)), (5, .int (z_I ct.1.2.2.2.1)), (4, .int (z_I ((z_ps ct mn.toNat).1.1.2.2.1))), (3, .int (z_I (x_si0 ct))), (2, .int (z_I ct.1.1)), (0, .ref (g 0)), (1, .int (z_I mn))] dL_passes_67 (by decide) rfl ?_
        refine z_iinc C 1 [(9, .int (z_I (k_9 + 1))), (8, .int (z_I (a_9 + (ct.1.2.2.2.2.2.1 k_9)))), (7, .int (z_I ct.2.2.2.2.2.2.2)), (6, .int (z_I ct.2.1.1)), (5, .int (z_I ct.1.2.2.2.1)), (4, .int (z_I ((z_ps ct mn.toNat).1.1.2.2.1))), (3, .int (z_I (x_si0 ct))), (2, .int (z_I ct.1.1)), (0, .ref (g 0)), (1, .int (z_I mn))] dL_passes_69 rfl (by decide) rfl ?_
        refine z_goto C 46 dL_passes_72 (by decide) ?_
        exact ih46 (k_9 + 1) (a_9 + ct.1.2.2.2.2.2.1 k_9) (by first | assumption | omega) (by first | assumption | omega) (by rw [x_pD_s hk0, ha]) (by omega)
  exact loop46 6 0 0 (by first | assumption | omega) (by first | assumption | omega) rfl (by omega)
