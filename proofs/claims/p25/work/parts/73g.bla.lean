theorem zd_L_isBlamed : yL_isBlamed.cls ≠ "java/lang/invoke/MethodHandle" ∧ yL_isBlamed.cls ≠ "java/lang/invoke/VarHandle" ∧ (parseMethodDescriptor yL_isBlamed.desc).map (fun d => d.parameters.length) = some 1 := by decide +kernel
set_option maxHeartbeats 4000000 in
set_option maxRecDepth 100000 in
theorem c_L_isBlamed (l : Launch) (D : va_G) (cI cZ cO : ClassId) (g : Nat → Nat) (ct : z_Ct) (J : p_J) (hx : x_ok ct) (ht : ct.1.1 ≤ 9999) (hJ : p_ok J) : z_Ei (p_J) l yL_isBlamed wsL_isBlamed 5 125 D (z_T cI cZ cO) [.ref (g 0)] ((pw cI cZ cO g ct J ++ []).flatten) (fun u => (pw cI cZ cO g ct u ++ []).flatten) (fun i u => i = 1 ∧ p_ok u) := by
  refine z_Ei_of (cc := cL_isBlamed) (nL := 8) (ret := (some .boolean)) (by decide +kernel) rfl (Nat.le_of_ble_eq_true rfl) ?_
  intro p e s m args below meth c A Q C hQ
  change z_V p l e { frames := 5, cells := 0, slots := 0, locals := 125 } s m args below meth c D A 8 0 0 Q ((pw cI cZ cO g ct J ++ []).flatten) 0 [(0, .ref (g 0))] []
  obtain ⟨t0, st0, p20, sh0, ow0, ck0, rn0, lw0, ho0, lc0, ld0, rl0, sn0, lct, owz⟩ := x_bas hx
  have hdl := hx.1.1.2.2.2.1
  have hg0 := x_gif_rng (k := 0) st0 hdl (by omega)
  refine z_aload_n C 0 dL_isBlamed_0 rfl ?_
  refine z_iconst C 0 dL_isBlamed_1 ?_
  refine pq_toBlame (F := (z_tb ct.1.2.1 ct.1.2.2.2.2.1).1) C gL_isBlamed_X6_toBlame dL_isBlamed_2 ⟨Nat.le_of_ble_eq_true rfl, Nat.le_of_ble_eq_true rfl⟩ ⟨Nat.le_of_ble_eq_true rfl, Nat.le_of_ble_eq_true rfl⟩ hx.1 ht 0 ⟨by omega, by omega⟩ pa_toBlame0 (Nat.le_of_ble_eq_true rfl) ?_
  refine z_istore_n C [(1, .int (z_I ((z_tb ct.1.2.1 ct.1.2.2.2.2.1).1))), (0, .ref (g 0))] dL_isBlamed_5 (by decide) rfl ?_
  refine z_aload_n C 1 dL_isBlamed_6 rfl ?_
  refine z_iconst C 1 dL_isBlamed_7 ?_
  refine pq_toBlame (F := (z_tb ct.1.2.1 ct.1.2.2.2.2.1).2) C gL_isBlamed_X6_toBlame dL_isBlamed_8 ⟨Nat.le_of_ble_eq_true rfl, Nat.le_of_ble_eq_true rfl⟩ ⟨Nat.le_of_ble_eq_true rfl, Nat.le_of_ble_eq_true rfl⟩ hx.1 ht 1 ⟨by omega, by omega⟩ pa_toBlame1 (Nat.le_of_ble_eq_true rfl) ?_
  refine z_istore_n C [(2, .int (z_I ((z_tb ct.1.2.1 ct.1.2.2.2.2.1).2))), (1, .int (z_I ((z_tb ct.1.2.1 ct.1.2.2.2.2.1).1))), (0, .ref (g 0))] dL_isBlamed_11 (by decide) rfl ?_
  refine z_iconst C (-1) dL_isBlamed_12 ?_
  refine z_istore_n C [(3, .int (z_I (-1))), (2, .int (z_I ((z_tb ct.1.2.1 ct.1.2.2.2.2.1).2))), (1, .int (z_I ((z_tb ct.1.2.1 ct.1.2.2.2.2.1).1))), (0, .ref (g 0))] dL_isBlamed_13 (by decide) rfl ?_
  refine z_bipush C 99 dL_isBlamed_14 (by decide) ?_
  refine z_istore C [(4, .int (z_I 99)), (3, .int (z_I (-1))), (2, .int (z_I ((z_tb ct.1.2.1 ct.1.2.2.2.2.1).2))), (1, .int (z_I ((z_tb ct.1.2.1 ct.1.2.2.2.2.1).1))), (0, .ref (g 0))] dL_isBlamed_16 (by decide) rfl ?_
  refine z_iconst C 0 dL_isBlamed_18 ?_
  refine z_istore C [(5, .int (z_I 0)), (4, .int (z_I 99)), (3, .int (z_I (-1))), (2, .int (z_I ((z_tb ct.1.2.1 ct.1.2.2.2.2.1).2))), (1, .int (z_I ((z_tb ct.1.2.1 ct.1.2.2.2.2.1).1))), (0, .ref (g 0))] dL_isBlamed_19 (by decide) rfl ?_
  have loop21 : ∀ (zn : Nat) (k_9 : Int) (bl_9 : Int) (le_9 : Int) (J1_9 : p_J), 0 ≤ k_9 → k_9 ≤ ct.1.2.1 → (k_9 = 0 ∧ le_9 = 99 ∧ bl_9 = -1) ∨ (1 ≤ k_9 ∧ (bl_9, le_9) = z_it (fun j q => if z_gif ct.1.2.1 ct.1.2.2.2.2.1 (j + 1) < q.2 then (j + 1, z_gif ct.1.2.1 ct.1.2.2.2.2.1 (j + 1)) else q) (0, z_gif ct.1.2.1 ct.1.2.2.2.2.1 0) (k_9 - 1).toNat) → -1 ≤ bl_9 ∧ bl_9 ≤ 5 ∧ 0 ≤ le_9 ∧ le_9 ≤ 99 → p_ok J1_9 → ct.1.2.1 - k_9 < (zn : Int) → z_V p l e { frames := 5, cells := 0, slots := 0, locals := 125 } s m args below meth c D A 8 0 0 Q ((pw cI cZ cO g ct J1_9 ++ []).flatten) 21 [(5, .int (z_I k_9)), (4, .int (z_I le_9)), (3, .int (z_I bl_9)), (2, .int (z_I ((z_tb ct.1.2.1 ct.1.2.2.2.2.1).2))), (1, .int (z_I ((z_tb ct.1.2.1 ct.1.2.2.2.2.1).1))), (0, .ref (g 0))] [] := by
    intro zn
    induction zn with
    | zero => intro k_9 bl_9 le_9 J1_9 hk0 hk1 hb hbr hJ1 hm; exact absurd hm (by omega)
    | succ zn21 ih21 =>
      intro k_9 bl_9 le_9 J1_9 hk0 hk1 hb hbr hJ1 hm21
      refine z_iload C 0 dL_isBlamed_21 rfl ?_
      refine z_aload_n C 5 dL_isBlamed_23 rfl ?_
      refine z_bipush C 10 dL_isBlamed_24 (by decide) ?_
      refine pq_count (F := ct.1.2.1) C gL_isBlamed_X6_count dL_isBlamed_26 ⟨Nat.le_of_ble_eq_true rfl, Nat.le_of_ble_eq_true rfl⟩ ⟨Nat.le_of_ble_eq_true rfl, Nat.le_of_ble_eq_true rfl⟩ hx.1 ht 10 ⟨by omega, by omega⟩ (pa_count10 (kp := J1_9.1)) (Nat.le_of_ble_eq_true rfl) ?_
      refine z_icmp_ge C 113 dL_isBlamed_29 (by decide) ⟨by omega, by omega⟩ ⟨by omega, by omega⟩ (fun hc1 => ?_) (fun hc1 => ?_)
      · skip
        obtain rfl : k_9 = ct.1.2.1 := by omega
        have hbe : (bl_9, le_9) = z_tb ct.1.2.1 ct.1.2.2.2.2.1 := (hb.resolve_left (by omega)).2
        have hb1 : bl_9 = (z_tb ct.1.2.1 ct.1.2.2.2.2.1).1 := congrArg Prod.fst hbe
        have hb2 : le_9 = (z_tb ct.1.2.1 ct.1.2.2.2.2.1).2 := congrArg Prod.snd hbe
        refine z_iload_n C 4 dL_isBlamed_113 rfl ?_
        refine z_iload_n C 2 dL_isBlamed_114 rfl ?_
        refine z_icmp_ne C 128 dL_isBlamed_115 (by decide) ⟨by omega, by omega⟩ ⟨by omega, by omega⟩ (fun hc2 => absurd hc2 (by omega)) (fun hc2 => ?_)
        refine z_iload_n C 3 dL_isBlamed_118 rfl ?_
        refine z_iload C 1 dL_isBlamed_119 rfl ?_
        refine z_icmp_ne C 128 dL_isBlamed_121 (by decide) ⟨by omega, by omega⟩ ⟨by omega, by omega⟩ (fun hc3 => absurd hc3 (by omega)) (fun hc3 => ?_)
        refine z_iconst C 1 dL_isBlamed_124 ?_
        refine z_goto C 129 dL_isBlamed_125 (by decide) ?_
        exact z_zrete C hQ J1_9 rfl ⟨rfl, hJ1⟩ (Or.inr rfl) dL_isBlamed_129
      · skip
        have hgk := x_gif_rng (k := k_9) st0 hdl ⟨hk0, by omega⟩
        have hdk := hdl k_9 hk0 (by omega)
        have hok1 := z_ok_dl hx.1 ht (k := k_9) ⟨hk0, by omega⟩
        refine z_aload_n C 5 dL_isBlamed_32 rfl ?_
        refine z_iload C 0 dL_isBlamed_33 rfl ?_
        refine z_iconst C 1 dL_isBlamed_35 ?_
        refine pq_delay (F := ct.1.2.2.2.2.1 k_9) C gL_isBlamed_X6_delay dL_isBlamed_36 ⟨Nat.le_of_ble_eq_true rfl, Nat.le_of_ble_eq_true rfl⟩ ⟨Nat.le_of_ble_eq_true rfl, Nat.le_of_ble_eq_true rfl⟩ hx.1 ht hJ1 k_9 1 ⟨by omega, by omega⟩ ⟨by omega, by omega⟩ (by rw [x_cd1 ⟨hk0, by omega⟩]) (Nat.le_of_ble_eq_true rfl) ?_
        obtain ⟨js4, ejs4, hjs4⟩ : ∃ j : p_J, p_st J1_9 ct (z_cd ct k_9 1).2 = j ∧ p_ok j := ⟨_, rfl, p_st_ok hJ1 hx.1 ht _⟩
        rw [ejs4]
        have ec1 : (z_cd ct k_9 1).1 = ((ct.1.1, ct.1.2.1, ct.1.2.2.1, ct.1.2.2.2.1, z_u ct.1.2.2.2.2.1 k_9 1, ct.1.2.2.2.2.2.1, ct.1.2.2.2.2.2.2), ct.2.1, ct.2.2.1, ct.2.2.2.1, ct.2.2.2.2.1, ct.2.2.2.2.2.1, ct.2.2.2.2.2.2.1, ct.2.2.2.2.2.2.2) := by rw [x_cd1 ⟨hk0, by omega⟩]
        rw [ec1]
        refine z_istore C [(6, .int (z_I (ct.1.2.2.2.2.1 k_9))), (5, .int (z_I k_9)), (4, .int (z_I le_9)), (3, .int (z_I bl_9)), (2, .int (z_I ((z_tb ct.1.2.1 ct.1.2.2.2.2.1).2))), (1, .int (z_I ((z_tb ct.1.2.1 ct.1.2.2.2.2.1).1))), (0, .ref (g 0))] dL_isBlamed_39 (by decide) rfl ?_
        by_cases hg : z_gif ct.1.2.1 ct.1.2.2.2.2.1 k_9 ≤ 50
        · skip
          have hg1 : z_sf ((ct.1.1, ct.1.2.1, ct.1.2.2.1, ct.1.2.2.2.1, z_u ct.1.2.2.2.2.1 k_9 1, ct.1.2.2.2.2.2.1, ct.1.2.2.2.2.2.2), ct.2.1, ct.2.2.1, ct.2.2.2.1, ct.2.2.2.2.1, ct.2.2.2.2.2.1, ct.2.2.2.2.2.2.1, ct.2.2.2.2.2.2.2).1.2.1 ((ct.1.1, ct.1.2.1, ct.1.2.2.1, ct.1.2.2.2.1, z_u ct.1.2.2.2.2.1 k_9 1, ct.1.2.2.2.2.2.1, ct.1.2.2.2.2.2.2), ct.2.1, ct.2.2.1, ct.2.2.2.1, ct.2.2.2.2.1, ct.2.2.2.2.2.1, ct.2.2.2.2.2.2.1, ct.2.2.2.2.2.2.2).1.2.2.2.2.1 ≤ 50 := by show z_sf ct.1.2.1 (z_u ct.1.2.2.2.2.1 k_9 1) ≤ 50; rw [z_sf_gif (st := ct.1.2.1) ⟨hk0, by omega⟩]; exact hg
          have hg2 : z_sf ((ct.1.1, ct.1.2.1, ct.1.2.2.1, ct.1.2.2.2.1, z_u ct.1.2.2.2.2.1 k_9 1, ct.1.2.2.2.2.2.1, ct.1.2.2.2.2.2.2), ct.2.1, ct.2.2.1, ct.2.2.2.1, ct.2.2.2.2.1, ct.2.2.2.2.2.1, ct.2.2.2.2.2.2.1, ct.2.2.2.2.2.2.2).1.2.1 ((ct.1.1, ct.1.2.1, ct.1.2.2.1, ct.1.2.2.2.1, z_u ct.1.2.2.2.2.1 k_9 1, ct.1.2.2.2.2.2.1, ct.1.2.2.2.2.2.2), ct.2.1, ct.2.2.1, ct.2.2.2.1, ct.2.2.2.2.1, ct.2.2.2.2.2.1, ct.2.2.2.2.2.2.1, ct.2.2.2.2.2.2.2).1.2.2.2.2.1 = z_gif ct.1.2.1 ct.1.2.2.2.2.1 k_9 := z_sf_gif (st := ct.1.2.1) ⟨hk0, by omega⟩
          refine z_aload_n C 6 dL_isBlamed_41 rfl ?_
          refine pq_safeGap (F := z_gif ct.1.2.1 ct.1.2.2.2.2.1 k_9) C gL_isBlamed_X6_safeGap dL_isBlamed_42 ⟨Nat.le_of_ble_eq_true rfl, Nat.le_of_ble_eq_true rfl⟩ ⟨Nat.le_of_ble_eq_true rfl, Nat.le_of_ble_eq_true rfl⟩ hok1 ht   ((pa_safeGapY hg1).trans hg2) (Nat.le_of_ble_eq_true rfl) ?_
          refine z_istore C [(7, .int (z_I (z_gif ct.1.2.1 ct.1.2.2.2.2.1 k_9))), (6, .int (z_I (ct.1.2.2.2.2.1 k_9))), (5, .int (z_I k_9)), (4, .int (z_I le_9)), (3, .int (z_I bl_9)), (2, .int (z_I ((z_tb ct.1.2.1 ct.1.2.2.2.2.1).2))), (1, .int (z_I ((z_tb ct.1.2.1 ct.1.2.2.2.2.1).1))), (0, .ref (g 0))] dL_isBlamed_45 (by decide) rfl ?_
          refine z_iload C 0 dL_isBlamed_47 rfl ?_
          refine z_bipush C (-6) dL_isBlamed_49 (by decide) ?_
          refine z_icmp_ne C 59 dL_isBlamed_51 (by decide) ⟨by omega, by omega⟩ ⟨by omega, by omega⟩ (fun hc5 => ?_) (fun hc5 => absurd hc5 (by omega))
          refine z_iload C 0 dL_isBlamed_59 rfl ?_
          refine z_istore C [(7, .int (z_I (z_gif ct.1.2.1 ct.1.2.2.2.2.1 k_9))), (6, .int (z_I (ct.1.2.2.2.2.1 k_9))), (5, .int (z_I k_9)), (4, .int (z_I le_9)), (3, .int (z_I bl_9)), (2, .int (z_I ((z_tb ct.1.2.1 ct.1.2.2.2.2.1).2))), (1, .int (z_I ((z_tb ct.1.2.1 ct.1.2.2.2.2.1).1))), (0, .ref (g 0))] dL_isBlamed_61 (by decide) rfl ?_
          refine z_iload C 0 dL_isBlamed_63 rfl ?_
          refine z_iload C 3 dL_isBlamed_65 rfl ?_
          refine z_icmp_ge C 75 dL_isBlamed_67 (by decide) ⟨by omega, by omega⟩ ⟨by omega, by omega⟩ (fun hc6 => ?_) (fun hc6 => ?_)
          · skip
            refine z_iload_n C 4 dL_isBlamed_75 rfl ?_
            refine z_istore_n C [(3, .int (z_I bl_9)), (7, .int (z_I (z_gif ct.1.2.1 ct.1.2.2.2.2.1 k_9))), (6, .int (z_I (ct.1.2.2.2.2.1 k_9))), (5, .int (z_I k_9)), (4, .int (z_I le_9)), (2, .int (z_I ((z_tb ct.1.2.1 ct.1.2.2.2.2.1).2))), (1, .int (z_I ((z_tb ct.1.2.1 ct.1.2.2.2.2.1).1))), (0, .ref (g 0))] dL_isBlamed_76 (by decide) rfl ?_
            refine z_iload C 1 dL_isBlamed_77 rfl ?_
            refine z_iload C 4 dL_isBlamed_79 rfl ?_
            refine z_icmp_ge C 89 dL_isBlamed_81 (by decide) ⟨by omega, by omega⟩ ⟨by omega, by omega⟩ (fun hc7 => ?_) (fun hc7 => absurd hc7 (by omega))
            refine z_iload C 4 dL_isBlamed_89 rfl ?_
            refine z_istore C [(4, .int (z_I le_9)), (3, .int (z_I bl_9)), (7, .int (z_I (z_gif ct.1.2.1 ct.1.2.2.2.2.1 k_9))), (6, .int (z_I (ct.1.2.2.2.2.1 k_9))), (5, .int (z_I k_9)), (2, .int (z_I ((z_tb ct.1.2.1 ct.1.2.2.2.2.1).2))), (1, .int (z_I ((z_tb ct.1.2.1 ct.1.2.2.2.2.1).1))), (0, .ref (g 0))] dL_isBlamed_91 (by decide) rfl ?_
            refine z_aload_n C 7 dL_isBlamed_93 rfl ?_
            refine z_iload C 4 dL_isBlamed_94 rfl ?_
            refine z_iload C 3 dL_isBlamed_96 rfl ?_
            refine pq_delay (F := 1) C gL_isBlamed_X6_delay dL_isBlamed_98 ⟨Nat.le_of_ble_eq_true rfl, Nat.le_of_ble_eq_true rfl⟩ ⟨Nat.le_of_ble_eq_true rfl, Nat.le_of_ble_eq_true rfl⟩ hok1 ht hjs4 k_9 (ct.1.2.2.2.2.1 k_9) ⟨by omega, by omega⟩ ⟨by omega, by omega⟩ (by rw [x_cd2 ⟨hk0, by omega⟩ hdk]) (Nat.le_of_ble_eq_true rfl) ?_
            obtain ⟨js8, ejs8, hjs8⟩ : ∃ j : p_J, p_st js4 ((ct.1.1, ct.1.2.1, ct.1.2.2.1, ct.1.2.2.2.1, z_u ct.1.2.2.2.2.1 k_9 1, ct.1.2.2.2.2.2.1, ct.1.2.2.2.2.2.2), ct.2.1, ct.2.2.1, ct.2.2.2.1, ct.2.2.2.2.1, ct.2.2.2.2.2.1, ct.2.2.2.2.2.2.1, ct.2.2.2.2.2.2.2) (z_cd ((ct.1.1, ct.1.2.1, ct.1.2.2.1, ct.1.2.2.2.1, z_u ct.1.2.2.2.2.1 k_9 1, ct.1.2.2.2.2.2.1, ct.1.2.2.2.2.2.2), ct.2.1, ct.2.2.1, ct.2.2.2.1, ct.2.2.2.2.1, ct.2.2.2.2.2.1, ct.2.2.2.2.2.2.1, ct.2.2.2.2.2.2.2) k_9 (ct.1.2.2.2.2.1 k_9)).2 = j ∧ p_ok j := ⟨_, rfl, p_st_ok hjs4 hok1 ht _⟩
            rw [ejs8]
            have ec2 : (z_cd ((ct.1.1, ct.1.2.1, ct.1.2.2.1, ct.1.2.2.2.1, z_u ct.1.2.2.2.2.1 k_9 1, ct.1.2.2.2.2.2.1, ct.1.2.2.2.2.2.2), ct.2.1, ct.2.2.1, ct.2.2.2.1, ct.2.2.2.2.1, ct.2.2.2.2.2.1, ct.2.2.2.2.2.2.1, ct.2.2.2.2.2.2.2) k_9 (ct.1.2.2.2.2.1 k_9)).1 = ct := by rw [x_cd2 ⟨hk0, by omega⟩ hdk]
            rw [ec2]
            refine z_iconst C 1 dL_isBlamed_101 ?_
            refine z_icmp_eq C 107 dL_isBlamed_102 (by decide) ⟨by omega, by omega⟩ ⟨by omega, by omega⟩ (fun hc9 => ?_) (fun hc9 => absurd hc9 (by omega))
            refine z_iinc C 4 [(5, .int (z_I (k_9 + 1))), (4, .int (z_I le_9)), (3, .int (z_I bl_9)), (7, .int (z_I (z_gif ct.1.2.1 ct.1.2.2.2.2.1 k_9))), (6, .int (z_I (ct.1.2.2.2.2.1 k_9))), (2, .int (z_I ((z_tb ct.1.2.1 ct.1.2.2.2.2.1).2))), (1, .int (z_I ((z_tb ct.1.2.1 ct.1.2.2.2.2.1).1))), (0, .ref (g 0))] dL_isBlamed_107 rfl (by decide) rfl ?_
            refine z_goto C 21 dL_isBlamed_110 (by decide) ?_
            refine z_lsub [(5, .int (z_I (k_9 + 1))), (4, .int (z_I le_9)), (3, .int (z_I bl_9)), (2, .int (z_I ((z_tb ct.1.2.1 ct.1.2.2.2.2.1).2))), (1, .int (z_I ((z_tb ct.1.2.1 ct.1.2.2.2.2.1).1))), (0, .ref (g 0))] [0, 1, 2, 5, 6, 7] rfl ?_
            exact ih21 (k_9 + 1) bl_9 le_9 js8 (by first | assumption | omega) (by first | assumption | omega) (Or.inr ⟨by omega, x_tb_t hk0 hb hg0.2 (by split <;> omega) (by split <;> omega)⟩) (by omega) hjs8 (by omega)
          · skip
            refine z_iload C 2 dL_isBlamed_70 rfl ?_
            refine z_goto C 76 dL_isBlamed_72 (by decide) ?_
            refine z_istore_n C [(3, .int (z_I k_9)), (7, .int (z_I (z_gif ct.1.2.1 ct.1.2.2.2.2.1 k_9))), (6, .int (z_I (ct.1.2.2.2.2.1 k_9))), (5, .int (z_I k_9)), (4, .int (z_I le_9)), (2, .int (z_I ((z_tb ct.1.2.1 ct.1.2.2.2.2.1).2))), (1, .int (z_I ((z_tb ct.1.2.1 ct.1.2.2.2.2.1).1))), (0, .ref (g 0))] dL_isBlamed_76 (by decide) rfl ?_
            refine z_iload C 1 dL_isBlamed_77 rfl ?_
            refine z_iload C 4 dL_isBlamed_79 rfl ?_
            refine z_icmp_ge C 89 dL_isBlamed_81 (by decide) ⟨by omega, by omega⟩ ⟨by omega, by omega⟩ (fun hc10 => absurd hc10 (by omega)) (fun hc10 => ?_)
            refine z_iload C 1 dL_isBlamed_84 rfl ?_
            refine z_goto C 91 dL_isBlamed_86 (by decide) ?_
            refine z_istore C [(4, .int (z_I (z_gif ct.1.2.1 ct.1.2.2.2.2.1 k_9))), (3, .int (z_I k_9)), (7, .int (z_I (z_gif ct.1.2.1 ct.1.2.2.2.2.1 k_9))), (6, .int (z_I (ct.1.2.2.2.2.1 k_9))), (5, .int (z_I k_9)), (2, .int (z_I ((z_tb ct.1.2.1 ct.1.2.2.2.2.1).2))), (1, .int (z_I ((z_tb ct.1.2.1 ct.1.2.2.2.2.1).1))), (0, .ref (g 0))] dL_isBlamed_91 (by decide) rfl ?_
            refine z_aload_n C 7 dL_isBlamed_93 rfl ?_
            refine z_iload C 4 dL_isBlamed_94 rfl ?_
            refine z_iload C 3 dL_isBlamed_96 rfl ?_
            refine pq_delay (F := 1) C gL_isBlamed_X6_delay dL_isBlamed_98 ⟨Nat.le_of_ble_eq_true rfl, Nat.le_of_ble_eq_true rfl⟩ ⟨Nat.le_of_ble_eq_true rfl, Nat.le_of_ble_eq_true rfl⟩ hok1 ht hjs4 k_9 (ct.1.2.2.2.2.1 k_9) ⟨by omega, by omega⟩ ⟨by omega, by omega⟩ (by rw [x_cd2 ⟨hk0, by omega⟩ hdk]) (Nat.le_of_ble_eq_true rfl) ?_
            obtain ⟨js11, ejs11, hjs11⟩ : ∃ j : p_J, p_st js4 ((ct.1.1, ct.1.2.1, ct.1.2.2.1, ct.1.2.2.2.1, z_u ct.1.2.2.2.2.1 k_9 1, ct.1.2.2.2.2.2.1, ct.1.2.2.2.2.2.2), ct.2.1, ct.2.2.1, ct.2.2.2.1, ct.2.2.2.2.1, ct.2.2.2.2.2.1, ct.2.2.2.2.2.2.1, ct.2.2.2.2.2.2.2) (z_cd ((ct.1.1, ct.1.2.1, ct.1.2.2.1, ct.1.2.2.2.1, z_u ct.1.2.2.2.2.1 k_9 1, ct.1.2.2.2.2.2.1, ct.1.2.2.2.2.2.2), ct.2.1, ct.2.2.1, ct.2.2.2.1, ct.2.2.2.2.1, ct.2.2.2.2.2.1, ct.2.2.2.2.2.2.1, ct.2.2.2.2.2.2.2) k_9 (ct.1.2.2.2.2.1 k_9)).2 = j ∧ p_ok j := ⟨_, rfl, p_st_ok hjs4 hok1 ht _⟩
            rw [ejs11]
            have ec2 : (z_cd ((ct.1.1, ct.1.2.1, ct.1.2.2.1, ct.1.2.2.2.1, z_u ct.1.2.2.2.2.1 k_9 1, ct.1.2.2.2.2.2.1, ct.1.2.2.2.2.2.2), ct.2.1, ct.2.2.1, ct.2.2.2.1, ct.2.2.2.2.1, ct.2.2.2.2.2.1, ct.2.2.2.2.2.2.1, ct.2.2.2.2.2.2.2) k_9 (ct.1.2.2.2.2.1 k_9)).1 = ct := by rw [x_cd2 ⟨hk0, by omega⟩ hdk]
            rw [ec2]
            refine z_iconst C 1 dL_isBlamed_101 ?_
            refine z_icmp_eq C 107 dL_isBlamed_102 (by decide) ⟨by omega, by omega⟩ ⟨by omega, by omega⟩ (fun hc12 => ?_) (fun hc12 => absurd hc12 (by omega))
            refine z_iinc C 4 [(5, .int (z_I (k_9 + 1))), (4, .int (z_I (z_gif ct.1.2.1 ct.1.2.2.2.2.1 k_9))), (3, .int (z_I k_9)), (7, .int (z_I (z_gif ct.1.2.1 ct.1.2.2.2.2.1 k_9))), (6, .int (z_I (ct.1.2.2.2.2.1 k_9))), (2, .int (z_I ((z_tb ct.1.2.1 ct.1.2.2.2.2.1).2))), (1, .int (z_I ((z_tb ct.1.2.1 ct.1.2.2.2.2.1).1))), (0, .ref (g 0))] dL_isBlamed_107 rfl (by decide) rfl ?_
            refine z_goto C 21 dL_isBlamed_110 (by decide) ?_
            refine z_lsub [(5, .int (z_I (k_9 + 1))), (4, .int (z_I (z_gif ct.1.2.1 ct.1.2.2.2.2.1 k_9))), (3, .int (z_I k_9)), (2, .int (z_I ((z_tb ct.1.2.1 ct.1.2.2.2.2.1).2))), (1, .int (z_I ((z_tb ct.1.2.1 ct.1.2.2.2.2.1).1))), (0, .ref (g 0))] [0, 1, 2, 5, 6, 7] rfl ?_
            exact ih21 (k_9 + 1) k_9 (z_gif ct.1.2.1 ct.1.2.2.2.2.1 k_9) js11 (by first | assumption | omega) (by first | assumption | omega) (Or.inr ⟨by omega, x_tb_t hk0 hb hg0.2 (by split <;> omega) (by split <;> omega)⟩) (by omega) hjs11 (by omega)
        · skip
          have hg1 : ¬ z_sf ((ct.1.1, ct.1.2.1, ct.1.2.2.1, ct.1.2.2.2.1, z_u ct.1.2.2.2.2.1 k_9 1, ct.1.2.2.2.2.2.1, ct.1.2.2.2.2.2.2), ct.2.1, ct.2.2.1, ct.2.2.2.1, ct.2.2.2.2.1, ct.2.2.2.2.2.1, ct.2.2.2.2.2.2.1, ct.2.2.2.2.2.2.2).1.2.1 ((ct.1.1, ct.1.2.1, ct.1.2.2.1, ct.1.2.2.2.1, z_u ct.1.2.2.2.2.1 k_9 1, ct.1.2.2.2.2.2.1, ct.1.2.2.2.2.2.2), ct.2.1, ct.2.2.1, ct.2.2.2.1, ct.2.2.2.2.1, ct.2.2.2.2.2.1, ct.2.2.2.2.2.2.1, ct.2.2.2.2.2.2.2).1.2.2.2.2.1 ≤ 50 := by show ¬ z_sf ct.1.2.1 (z_u ct.1.2.2.2.2.1 k_9 1) ≤ 50; rw [z_sf_gif (st := ct.1.2.1) ⟨hk0, by omega⟩]; exact hg
          refine z_aload_n C 6 dL_isBlamed_41 rfl ?_
          refine pq_safeGap (F := (-6)) C gL_isBlamed_X6_safeGap dL_isBlamed_42 ⟨Nat.le_of_ble_eq_true rfl, Nat.le_of_ble_eq_true rfl⟩ ⟨Nat.le_of_ble_eq_true rfl, Nat.le_of_ble_eq_true rfl⟩ hok1 ht   (pa_safeGapN hg1) (Nat.le_of_ble_eq_true rfl) ?_
          refine z_istore C [(7, .int (z_I (-6))), (6, .int (z_I (ct.1.2.2.2.2.1 k_9))), (5, .int (z_I k_9)), (4, .int (z_I le_9)), (3, .int (z_I bl_9)), (2, .int (z_I ((z_tb ct.1.2.1 ct.1.2.2.2.2.1).2))), (1, .int (z_I ((z_tb ct.1.2.1 ct.1.2.2.2.2.1).1))), (0, .ref (g 0))] dL_isBlamed_45 (by decide) rfl ?_
          refine z_iload C 0 dL_isBlamed_47 rfl ?_
          refine z_bipush C (-6) dL_isBlamed_49 (by decide) ?_
          refine z_icmp_ne C 59 dL_isBlamed_51 (by decide) ⟨by omega, by omega⟩ ⟨by omega, by omega⟩ (fun hc13 => absurd hc13 (by omega)) (fun hc13 => ?_)
          refine z_bipush C 51 dL_isBlamed_54 (by decide) ?_
          refine z_goto C 61 dL_isBlamed_56 (by decide) ?_
          refine z_istore C [(7, .int (z_I 51)), (6, .int (z_I (ct.1.2.2.2.2.1 k_9))), (5, .int (z_I k_9)), (4, .int (z_I le_9)), (3, .int (z_I bl_9)), (2, .int (z_I ((z_tb ct.1.2.1 ct.1.2.2.2.2.1).2))), (1, .int (z_I ((z_tb ct.1.2.1 ct.1.2.2.2.2.1).1))), (0, .ref (g 0))] dL_isBlamed_61 (by decide) rfl ?_
          refine z_iload C 0 dL_isBlamed_63 rfl ?_
          refine z_iload C 3 dL_isBlamed_65 rfl ?_
          refine z_icmp_ge C 75 dL_isBlamed_67 (by decide) ⟨by omega, by omega⟩ ⟨by omega, by omega⟩ (fun hc14 => ?_) (fun hc14 => ?_)
          · skip
            refine z_iload_n C 4 dL_isBlamed_75 rfl ?_
            refine z_istore_n C [(3, .int (z_I bl_9)), (7, .int (z_I 51)), (6, .int (z_I (ct.1.2.2.2.2.1 k_9))), (5, .int (z_I k_9)), (4, .int (z_I le_9)), (2, .int (z_I ((z_tb ct.1.2.1 ct.1.2.2.2.2.1).2))), (1, .int (z_I ((z_tb ct.1.2.1 ct.1.2.2.2.2.1).1))), (0, .ref (g 0))] dL_isBlamed_76 (by decide) rfl ?_
            refine z_iload C 1 dL_isBlamed_77 rfl ?_
            refine z_iload C 4 dL_isBlamed_79 rfl ?_
            refine z_icmp_ge C 89 dL_isBlamed_81 (by decide) ⟨by omega, by omega⟩ ⟨by omega, by omega⟩ (fun hc15 => ?_) (fun hc15 => absurd hc15 (by omega))
            refine z_iload C 4 dL_isBlamed_89 rfl ?_
            refine z_istore C [(4, .int (z_I le_9)), (3, .int (z_I bl_9)), (7, .int (z_I 51)), (6, .int (z_I (ct.1.2.2.2.2.1 k_9))), (5, .int (z_I k_9)), (2, .int (z_I ((z_tb ct.1.2.1 ct.1.2.2.2.2.1).2))), (1, .int (z_I ((z_tb ct.1.2.1 ct.1.2.2.2.2.1).1))), (0, .ref (g 0))] dL_isBlamed_91 (by decide) rfl ?_
            refine z_aload_n C 7 dL_isBlamed_93 rfl ?_
            refine z_iload C 4 dL_isBlamed_94 rfl ?_
            refine z_iload C 3 dL_isBlamed_96 rfl ?_
            refine pq_delay (F := 1) C gL_isBlamed_X6_delay dL_isBlamed_98 ⟨Nat.le_of_ble_eq_true rfl, Nat.le_of_ble_eq_true rfl⟩ ⟨Nat.le_of_ble_eq_true rfl, Nat.le_of_ble_eq_true rfl⟩ hok1 ht hjs4 k_9 (ct.1.2.2.2.2.1 k_9) ⟨by omega, by omega⟩ ⟨by omega, by omega⟩ (by rw [x_cd2 ⟨hk0, by omega⟩ hdk]) (Nat.le_of_ble_eq_true rfl) ?_
            obtain ⟨js16, ejs16, hjs16⟩ : ∃ j : p_J, p_st js4 ((ct.1.1, ct.1.2.1, ct.1.2.2.1, ct.1.2.2.2.1, z_u ct.1.2.2.2.2.1 k_9 1, ct.1.2.2.2.2.2.1, ct.1.2.2.2.2.2.2), ct.2.1, ct.2.2.1, ct.2.2.2.1, ct.2.2.2.2.1, ct.2.2.2.2.2.1, ct.2.2.2.2.2.2.1, ct.2.2.2.2.2.2.2) (z_cd ((ct.1.1, ct.1.2.1, ct.1.2.2.1, ct.1.2.2.2.1, z_u ct.1.2.2.2.2.1 k_9 1, ct.1.2.2.2.2.2.1, ct.1.2.2.2.2.2.2), ct.2.1, ct.2.2.1, ct.2.2.2.1, ct.2.2.2.2.1, ct.2.2.2.2.2.1, ct.2.2.2.2.2.2.1, ct.2.2.2.2.2.2.2) k_9 (ct.1.2.2.2.2.1 k_9)).2 = j ∧ p_ok j := ⟨_, rfl, p_st_ok hjs4 hok1 ht _⟩
            rw [ejs16]
            have ec2 : (z_cd ((ct.1.1, ct.1.2.1, ct.1.2.2.1, ct.1.2.2.2.1, z_u ct.1.2.2.2.2.1 k_9 1, ct.1.2.2.2.2.2.1, ct.1.2.2.2.2.2.2), ct.2.1, ct.2.2.1, ct.2.2.2.1, ct.2.2.2.2.1, ct.2.2.2.2.2.1, ct.2.2.2.2.2.2.1, ct.2.2.2.2.2.2.2) k_9 (ct.1.2.2.2.2.1 k_9)).1 = ct := by rw [x_cd2 ⟨hk0, by omega⟩ hdk]
            rw [ec2]
            refine z_iconst C 1 dL_isBlamed_101 ?_
            refine z_icmp_eq C 107 dL_isBlamed_102 (by decide) ⟨by omega, by omega⟩ ⟨by omega, by omega⟩ (fun hc17 => ?_) (fun hc17 => absurd hc17 (by omega))
            refine z_iinc C 4 [(5, .int (z_I (k_9 + 1))), (4, .int (z_I le_9)), (3, .int (z_I bl_9)), (7, .int (z_I 51)), (6, .int (z_I (ct.1.2.2.2.2.1 k_9))), (2, .int (z_I ((z_tb ct.1.2.1 ct.1.2.2.2.2.1).2))), (1, .int (z_I ((z_tb ct.1.2.1 ct.1.2.2.2.2.1).1))), (0, .ref (g 0))] dL_isBlamed_107 rfl (by decide) rfl ?_
            refine z_goto C 21 dL_isBlamed_110 (by decide) ?_
            refine z_lsub [(5, .int (z_I (k_9 + 1))), (4, .int (z_I le_9)), (3, .int (z_I bl_9)), (2, .int (z_I ((z_tb ct.1.2.1 ct.1.2.2.2.2.1).2))), (1, .int (z_I ((z_tb ct.1.2.1 ct.1.2.2.2.2.1).1))), (0, .ref (g 0))] [0, 1, 2, 5, 6, 7] rfl ?_
            exact ih21 (k_9 + 1) bl_9 le_9 js16 (by first | assumption | omega) (by first | assumption | omega) (Or.inr ⟨by omega, x_tb_t hk0 hb hg0.2 (by split <;> omega) (by split <;> omega)⟩) (by omega) hjs16 (by omega)
          · skip
            refine z_iload C 2 dL_isBlamed_70 rfl ?_
            refine z_goto C 76 dL_isBlamed_72 (by decide) ?_
            refine z_istore_n C [(3, .int (z_I k_9)), (7, .int (z_I 51)), (6, .int (z_I (ct.1.2.2.2.2.1 k_9))), (5, .int (z_I k_9)), (4, .int (z_I le_9)), (2, .int (z_I ((z_tb ct.1.2.1 ct.1.2.2.2.2.1).2))), (1, .int (z_I ((z_tb ct.1.2.1 ct.1.2.2.2.2.1).1))), (0, .ref (g 0))] dL_isBlamed_76 (by decide) rfl ?_
            refine z_iload C 1 dL_isBlamed_77 rfl ?_
            refine z_iload C 4 dL_isBlamed_79 rfl ?_
            refine z_icmp_ge C 89 dL_isBlamed_81 (by decide) ⟨by omega, by omega⟩ ⟨by omega, by omega⟩ (fun hc18 => absurd hc18 (by omega)) (fun hc18 => ?_)
            refine z_iload C 1 dL_isBlamed_84 rfl ?_
            refine z_goto C 91 dL_isBlamed_86 (by decide) ?_
            refine z_istore C [(4, .int (z_I 51)), (3, .int (z_I k_9)), (7, .int (z_I 51)), (6, .int (z_I (ct.1.2.2.2.2.1 k_9))), (5, .int (z_I k_9)), (2, .int (z_I ((z_tb ct.1.2.1 ct.1.2.2.2.2.1).2))), (1, .int (z_I ((z_tb ct.1.2.1 ct.1.2.2.2.2.1).1))), (0, .ref (g 0))] dL_isBlamed_91 (by decide) rfl ?_
            refine z_aload_n C 7 dL_isBlamed_93 rfl ?_
            refine z_iload C 4 dL_isBlamed_94 rfl ?_
            refine z_iload C 3 dL_isBlamed_96 rfl ?_
            refine pq_delay (F := 1) C gL_isBlamed_X6_delay dL_isBlamed_98 ⟨Nat.le_of_ble_eq_true rfl, Nat.le_of_ble_eq_true rfl⟩ ⟨Nat.le_of_ble_eq_true rfl, Nat.le_of_ble_eq_true rfl⟩ hok1 ht hjs4 k_9 (ct.1.2.2.2.2.1 k_9) ⟨by omega, by omega⟩ ⟨by omega, by omega⟩ (by rw [x_cd2 ⟨hk0, by omega⟩ hdk]) (Nat.le_of_ble_eq_true rfl) ?_
            obtain ⟨js19, ejs19, hjs19⟩ : ∃ j : p_J, p_st js4 ((ct.1.1, ct.1.2.1, ct.1.2.2.1, ct.1.2.2.2.1, z_u ct.1.2.2.2.2.1 k_9 1, ct.1.2.2.2.2.2.1, ct.1.2.2.2.2.2.2), ct.2.1, ct.2.2.1, ct.2.2.2.1, ct.2.2.2.2.1, ct.2.2.2.2.2.1, ct.2.2.2.2.2.2.1, ct.2.2.2.2.2.2.2) (z_cd ((ct.1.1, ct.1.2.1, ct.1.2.2.1, ct.1.2.2.2.1, z_u ct.1.2.2.2.2.1 k_9 1, ct.1.2.2.2.2.2.1, ct.1.2.2.2.2.2.2), ct.2.1, ct.2.2.1, ct.2.2.2.1, ct.2.2.2.2.1, ct.2.2.2.2.2.1, ct.2.2.2.2.2.2.1, ct.2.2.2.2.2.2.2) k_9 (ct.1.2.2.2.2.1 k_9)).2 = j ∧ p_ok j := ⟨_, rfl, p_st_ok hjs4 hok1 ht _⟩
            rw [ejs19]
            have ec2 : (z_cd ((ct.1.1, ct.1.2.1, ct.1.2.2.1, ct.1.2.2.2.1, z_u ct.1.2.2.2.2.1 k_9 1, ct.1.2.2.2.2.2.1, ct.1.2.2.2.2.2.2), ct.2.1, ct.2.2.1, ct.2.2.2.1, ct.2.2.2.2.1, ct.2.2.2.2.2.1, ct.2.2.2.2.2.2.1, ct.2.2.2.2.2.2.2) k_9 (ct.1.2.2.2.2.1 k_9)).1 = ct := by rw [x_cd2 ⟨hk0, by omega⟩ hdk]
            rw [ec2]
            refine z_iconst C 1 dL_isBlamed_101 ?_
            refine z_icmp_eq C 107 dL_isBlamed_102 (by decide) ⟨by omega, by omega⟩ ⟨by omega, by omega⟩ (fun hc20 => ?_) (fun hc20 => absurd hc20 (by omega))
            refine z_iinc C 4 [(5, .int (z_I (k_9 + 1))), (4, .int (z_I 51)), (3, .int (z_I k_9)), (7, .int (z_I 51)), (6, .int (z_I (ct.1.2.2.2.2.1 k_9))), (2, .int (z_I ((z_tb ct.1.2.1 ct.1.2.2.2.2.1).2))), (1, .int (z_I ((z_tb ct.1.2.1 ct.1.2.2.2.2.1).1))), (0, .ref (g 0))] dL_isBlamed_107 rfl (by decide) rfl ?_
            refine z_goto C 21 dL_isBlamed_110 (by decide) ?_
            refine z_lsub [(5, .int (z_I (k_9 + 1))), (4, .int (z_I 51)), (3, .int (z_I k_9)), (2, .int (z_I ((z_tb ct.1.2.1 ct.1.2.2.2.2.1).2))), (1, .int (z_I ((z_tb ct.1.2.1 ct.1.2.2.2.2.1).1))), (0, .ref (g 0))] [0, 1, 2, 5, 6, 7] rfl ?_
            exact ih21 (k_9 + 1) k_9 51 js19 (by first | assumption | omega) (by first | assumption | omega) (Or.inr ⟨by omega, x_tb_t hk0 hb hg0.2 (by split <;> omega) (by split <;> omega)⟩) (by omega) hjs19 (by omega)
  exact loop21 6 0 (-1) 99 J (by first | assumption | omega) (by first | assumption | omega) (Or.inl ⟨rfl, rfl, rfl⟩) ⟨by decide, by decide, by decide, by decide⟩ (by first | assumption | omega) (by omega)
