theorem zd_L_areSeen : yL_areSeen.cls ≠ "java/lang/invoke/MethodHandle" ∧ yL_areSeen.cls ≠ "java/lang/invoke/VarHandle" ∧ (parseMethodDescriptor yL_areSeen.desc).map (fun d => d.parameters.length) = some 1 := by decide +kernel
set_option maxHeartbeats 4000000 in
set_option maxRecDepth 100000 in
theorem c_L_areSeen (l : Launch) (D : va_G) (cI cZ cO : ClassId) (g : Nat → Nat) (ct : z_Ct) (J : p_J) (hx : x_ok ct) (ht : ct.1.1 ≤ 9999) : z_Mi l yL_areSeen wsL_areSeen 3 65 D (z_T cI cZ cO) [.ref (g 0)] ((pw cI cZ cO g ct J ++ []).flatten) ((pw cI cZ cO g ct J ++ []).flatten) 1 := by
  refine z_Mi_of (cc := cL_areSeen) (nL := 8) (ret := (some .boolean)) (by decide +kernel) rfl (Nat.le_of_ble_eq_true rfl) ?_
  intro p e s m args below meth c A Q C hQ
  change z_V p l e { frames := 3, cells := 0, slots := 0, locals := 65 } s m args below meth c D A 8 0 0 Q ((pw cI cZ cO g ct J ++ []).flatten) 0 [(0, .ref (g 0))] []
  obtain ⟨t0, st0, p20, sh0, ow0, ck0, rn0, lw0, ho0, lc0, ld0, rl0, sn0, lct, owz⟩ := x_bas hx
  have hsk := hx.2.2.2.1
  have hrk := hx.2.2.2.2
  have hso := hx.1.2.2.1
  have hro := hx.1.2.1
  have hr32 : ∀ j : Int, 0 ≤ j → j < ct.2.2.1.1 → 0 ≤ ct.2.2.1.2.1 j ∧ ct.2.2.1.2.1 j < 32 := fun j j1 j2 => (hso.2.1 j j1 j2).1
  refine z_iconst C 0 dL_areSeen_0 ?_
  refine z_istore_n C [(1, .int (z_I 0)), (0, .ref (g 0))] dL_areSeen_1 (by decide) rfl ?_
  refine z_iconst C 0 dL_areSeen_2 ?_
  refine z_istore_n C [(2, .int (z_I 0)), (1, .int (z_I 0)), (0, .ref (g 0))] dL_areSeen_3 (by decide) rfl ?_
  refine z_iconst C (-1) dL_areSeen_4 ?_
  refine z_istore_n C [(3, .int (z_I (-1))), (2, .int (z_I 0)), (1, .int (z_I 0)), (0, .ref (g 0))] dL_areSeen_5 (by decide) rfl ?_
  refine z_iconst C 0 dL_areSeen_6 ?_
  refine z_istore C [(4, .int (z_I 0)), (3, .int (z_I (-1))), (2, .int (z_I 0)), (1, .int (z_I 0)), (0, .ref (g 0))] dL_areSeen_7 (by decide) rfl ?_
  refine z_iconst C 0 dL_areSeen_9 ?_
  refine z_istore C [(5, .int (z_I 0)), (4, .int (z_I 0)), (3, .int (z_I (-1))), (2, .int (z_I 0)), (1, .int (z_I 0)), (0, .ref (g 0))] dL_areSeen_10 (by decide) rfl ?_
  have loop12 : ∀ (zn : Nat) (r_9 : Int) (sa_9 : Int) (fa_9 : Int) (la_9 : Int), 0 ≤ r_9 → r_9 ≤ ct.2.2.1.1 → sa_9 = x_set ct.2.2.1.2.2.1 ct.2.2.1.2.1 r_9.toNat → fa_9 = x_set ct.2.2.1.2.2.2.1 ct.2.2.1.2.1 r_9.toNat → (r_9 = 0 ∧ la_9 = -1) ∨ (1 ≤ r_9 ∧ la_9 = ct.2.2.1.2.2.2.2 (ct.2.2.1.2.1 (r_9 - 1))) → ct.2.2.1.1 - r_9 < (zn : Int) → z_V p l e { frames := 3, cells := 0, slots := 0, locals := 65 } s m args below meth c D A 8 0 0 Q ((pw cI cZ cO g ct J ++ []).flatten) 12 [(0, .ref (g 0)), (1, .int (z_I sa_9)), (2, .int (z_I fa_9)), (3, .int (z_I la_9)), (4, .int (z_I r_9)), (5, .int (z_I r_9))] [] := by
    intro zn
    induction zn with
    | zero => intro r_9 sa_9 fa_9 la_9 h0 hr1 h1 h2 h3 hm; exact absurd hm (by omega)
    | succ zn12 ih12 =>
      intro r_9 sa_9 fa_9 la_9 h0 hr1 h1 h2 h3 hm12
      have rs := x_set_can ct.2.2.1.2.2.1 ct.2.2.1.2.1 r_9.toNat
      have rf := x_set_can ct.2.2.1.2.2.2.1 ct.2.2.1.2.1 r_9.toNat
      rw [← h1] at rs
      rw [← h2] at rf
      refine z_iload C 5 dL_areSeen_12 rfl ?_
      refine z_bipush C 33 dL_areSeen_14 (by decide) ?_
      refine z_icmp_ge C 155 dL_areSeen_16 (by decide) ⟨by omega, by omega⟩ ⟨by omega, by omega⟩ (fun hc1 => absurd hc1 (by omega)) (fun hc1 => ?_)
      by_cases hq : r_9 < ct.2.2.1.1
      · skip
        have hn32 := hr32 r_9 h0 hq
        have hfo := (hso.2.1 r_9 h0 hq).2
        obtain ⟨⟨-, fo2⟩, fl1, fl2⟩ := hso.2.2.1 (ct.2.2.1.2.1 r_9) hn32.1 hn32.2
        obtain ⟨k1, k2, k3⟩ := hsk.2 r_9 h0 hq
        have hla : la_9 < ct.2.2.1.2.2.2.2 (ct.2.2.1.2.1 r_9) ∧ -1 ≤ la_9 ∧ la_9 ≤ 9999 := by
          rcases h3 with ⟨a1, a2⟩ | ⟨a1, a2⟩
          · omega
          · have a3 := hsk.1 (r_9 - 1) r_9 (by omega) (by omega) hq
            have a4 := hsk.2 (r_9 - 1) (by omega) (by omega)
            omega
        have hno : x_an (x_sr sa_9 (ct.2.2.1.2.1 r_9)) 1 = 0 := by rw [h1]; exact x_set_bit ⟨h0, hq⟩ hr32 hso.2.2.2.2.1
        refine z_aload_n C 0 dL_areSeen_19 rfl ?_
        refine z_iload C 5 dL_areSeen_20 rfl ?_
        refine z_iconst C 0 dL_areSeen_22 ?_
        refine pq_seen (F := ct.2.2.1.2.1 r_9) C gL_areSeen_X6_seen dL_areSeen_23 ⟨Nat.le_of_ble_eq_true rfl, Nat.le_of_ble_eq_true rfl⟩ ⟨Nat.le_of_ble_eq_true rfl, Nat.le_of_ble_eq_true rfl⟩ hx.1 ht r_9 0 ⟨by omega, by omega⟩ ⟨by omega, by omega⟩ (pa_seen0 (by omega)) (Nat.le_of_ble_eq_true rfl) ?_
        refine z_istore C [(6, .int (z_I (ct.2.2.1.2.1 r_9))), (0, .ref (g 0)), (1, .int (z_I sa_9)), (2, .int (z_I fa_9)), (3, .int (z_I la_9)), (4, .int (z_I r_9)), (5, .int (z_I r_9))] dL_areSeen_26 (by decide) rfl ?_
        refine z_iload C 0 dL_areSeen_28 rfl ?_
        refine z_if_ge C 36 dL_areSeen_30 (by decide) ⟨by omega, by omega⟩ (fun hc2 => ?_) (fun hc2 => absurd hc2 (by omega))
        refine z_iinc C 5 [(4, .int (z_I (r_9 + 1))), (6, .int (z_I (ct.2.2.1.2.1 r_9))), (0, .ref (g 0)), (1, .int (z_I sa_9)), (2, .int (z_I fa_9)), (3, .int (z_I la_9)), (5, .int (z_I r_9))] dL_areSeen_36 rfl (by decide) rfl ?_
        refine z_iload_n C 3 dL_areSeen_39 rfl ?_
        refine z_iload C 1 dL_areSeen_40 rfl ?_
        refine z_ishr C (x_sr sa_9 (ct.2.2.1.2.1 r_9)) dL_areSeen_42 (x_sr_eq _ _) ?_
        refine z_iconst C 1 dL_areSeen_43 ?_
        refine z_iand C (x_an (x_sr sa_9 (ct.2.2.1.2.1 r_9)) 1) dL_areSeen_44 (x_an_eq _ _) ?_
        refine z_iconst C 1 dL_areSeen_45 ?_
        refine z_icmp_eq C 111 dL_areSeen_46 (by decide) ⟨by omega, by omega⟩ ⟨by omega, by omega⟩ (fun hc3 => absurd hc3 (by omega)) (fun hc3 => ?_)
        refine z_iload C 1 dL_areSeen_49 rfl ?_
        refine z_iconst C 1 dL_areSeen_51 ?_
        refine z_aload_n C 2 dL_areSeen_52 rfl ?_
        refine z_bipush C 10 dL_areSeen_53 (by decide) ?_
        refine pq_count (F := ct.1.2.1) C gL_areSeen_X6_count dL_areSeen_55 ⟨Nat.le_of_ble_eq_true rfl, Nat.le_of_ble_eq_true rfl⟩ ⟨Nat.le_of_ble_eq_true rfl, Nat.le_of_ble_eq_true rfl⟩ hx.1 ht 10 ⟨by omega, by omega⟩ (pa_count10 (kp := J.1)) (Nat.le_of_ble_eq_true rfl) ?_
        refine z_ishl C (z_p2 ct.1.2.1) dL_areSeen_58 (z_shl1 (by omega)) ?_
        refine z_icmp_ge C 111 dL_areSeen_59 (by decide) ⟨by omega, by omega⟩ ⟨by omega, by omega⟩ (fun hc4 => absurd hc4 (by omega)) (fun hc4 => ?_)
        refine z_aload_n C 2 dL_areSeen_62 rfl ?_
        refine z_iload C 6 dL_areSeen_63 rfl ?_
        refine z_iconst C 1 dL_areSeen_65 ?_
        refine pq_seen (F := ct.2.2.1.2.2.1 (ct.2.2.1.2.1 r_9)) C gL_areSeen_X6_seen dL_areSeen_66 ⟨Nat.le_of_ble_eq_true rfl, Nat.le_of_ble_eq_true rfl⟩ ⟨Nat.le_of_ble_eq_true rfl, Nat.le_of_ble_eq_true rfl⟩ hx.1 ht r_9 1 ⟨by omega, by omega⟩ ⟨by omega, by omega⟩ (pa_seen1 (by omega)) (Nat.le_of_ble_eq_true rfl) ?_
        refine z_iconst C 1 dL_areSeen_69 ?_
        refine z_icmp_lt C 111 dL_areSeen_70 (by decide) ⟨by omega, by omega⟩ ⟨by omega, by omega⟩ (fun hc5 => absurd hc5 (by omega)) (fun hc5 => ?_)
        refine z_aload_n C 2 dL_areSeen_73 rfl ?_
        refine z_iload C 6 dL_areSeen_74 rfl ?_
        refine z_iconst C 2 dL_areSeen_76 ?_
        refine pq_seen (F := ct.2.2.1.2.2.2.1 (ct.2.2.1.2.1 r_9)) C gL_areSeen_X6_seen dL_areSeen_77 ⟨Nat.le_of_ble_eq_true rfl, Nat.le_of_ble_eq_true rfl⟩ ⟨Nat.le_of_ble_eq_true rfl, Nat.le_of_ble_eq_true rfl⟩ hx.1 ht r_9 2 ⟨by omega, by omega⟩ ⟨by omega, by omega⟩ (pa_seen2 (by omega)) (Nat.le_of_ble_eq_true rfl) ?_
        refine z_aload_n C 2 dL_areSeen_80 rfl ?_
        refine z_iload C 6 dL_areSeen_81 rfl ?_
        refine z_iconst C 1 dL_areSeen_83 ?_
        refine pq_seen (F := ct.2.2.1.2.2.1 (ct.2.2.1.2.1 r_9)) C gL_areSeen_X6_seen dL_areSeen_84 ⟨Nat.le_of_ble_eq_true rfl, Nat.le_of_ble_eq_true rfl⟩ ⟨Nat.le_of_ble_eq_true rfl, Nat.le_of_ble_eq_true rfl⟩ hx.1 ht r_9 1 ⟨by omega, by omega⟩ ⟨by omega, by omega⟩ (pa_seen1 (by omega)) (Nat.le_of_ble_eq_true rfl) ?_
        refine z_icmp_gt C 111 dL_areSeen_87 (by decide) ⟨by omega, by omega⟩ ⟨by omega, by omega⟩ (fun hc6 => absurd hc6 (by omega)) (fun hc6 => ?_)
        refine z_aload_n C 2 dL_areSeen_90 rfl ?_
        refine z_iload C 6 dL_areSeen_91 rfl ?_
        refine z_iconst C 2 dL_areSeen_93 ?_
        refine pq_seen (F := ct.2.2.1.2.2.2.1 (ct.2.2.1.2.1 r_9)) C gL_areSeen_X6_seen dL_areSeen_94 ⟨Nat.le_of_ble_eq_true rfl, Nat.le_of_ble_eq_true rfl⟩ ⟨Nat.le_of_ble_eq_true rfl, Nat.le_of_ble_eq_true rfl⟩ hx.1 ht r_9 2 ⟨by omega, by omega⟩ ⟨by omega, by omega⟩ (pa_seen2 (by omega)) (Nat.le_of_ble_eq_true rfl) ?_
        refine z_if_lt C 111 dL_areSeen_97 (by decide) ⟨by omega, by omega⟩ (fun hc7 => absurd hc7 (by omega)) (fun hc7 => ?_)
        refine z_aload_n C 2 dL_areSeen_100 rfl ?_
        refine z_iload C 6 dL_areSeen_101 rfl ?_
        refine z_iconst C 3 dL_areSeen_103 ?_
        refine pq_seen (F := ct.2.2.1.2.2.2.2 (ct.2.2.1.2.1 r_9)) C gL_areSeen_X6_seen dL_areSeen_104 ⟨Nat.le_of_ble_eq_true rfl, Nat.le_of_ble_eq_true rfl⟩ ⟨Nat.le_of_ble_eq_true rfl, Nat.le_of_ble_eq_true rfl⟩ hx.1 ht r_9 3 ⟨by omega, by omega⟩ ⟨by omega, by omega⟩ (pa_seen3 (by omega)) (Nat.le_of_ble_eq_true rfl) ?_
        refine z_iload_n C 5 dL_areSeen_107 rfl ?_
        refine z_icmp_gt C 113 dL_areSeen_108 (by decide) ⟨by omega, by omega⟩ ⟨by omega, by omega⟩ (fun hc8 => ?_) (fun hc8 => absurd hc8 (by omega))
        refine z_iload_n C 3 dL_areSeen_113 rfl ?_
        refine z_iconst C 1 dL_areSeen_114 ?_
        refine z_iload C 1 dL_areSeen_115 rfl ?_
        refine z_ishl C (z_p2 (ct.2.2.1.2.1 r_9)) dL_areSeen_117 (z_shl1 (by omega)) ?_
        refine z_ior C (z_or sa_9 (z_p2 (ct.2.2.1.2.1 r_9))) dL_areSeen_118 (z_or_eq _ _) ?_
        refine z_istore_n C [(1, .int (z_I (z_or sa_9 (z_p2 (ct.2.2.1.2.1 r_9))))), (4, .int (z_I (r_9 + 1))), (6, .int (z_I (ct.2.2.1.2.1 r_9))), (0, .ref (g 0)), (2, .int (z_I fa_9)), (3, .int (z_I la_9)), (5, .int (z_I r_9))] dL_areSeen_119 (by decide) rfl ?_
        refine z_iload_n C 4 dL_areSeen_120 rfl ?_
        refine z_aload_n C 3 dL_areSeen_121 rfl ?_
        refine z_iload C 6 dL_areSeen_122 rfl ?_
        refine z_iconst C 2 dL_areSeen_124 ?_
        refine pq_seen (F := ct.2.2.1.2.2.2.1 (ct.2.2.1.2.1 r_9)) C gL_areSeen_X6_seen dL_areSeen_125 ⟨Nat.le_of_ble_eq_true rfl, Nat.le_of_ble_eq_true rfl⟩ ⟨Nat.le_of_ble_eq_true rfl, Nat.le_of_ble_eq_true rfl⟩ hx.1 ht r_9 2 ⟨by omega, by omega⟩ ⟨by omega, by omega⟩ (pa_seen2 (by omega)) (Nat.le_of_ble_eq_true rfl) ?_
        refine z_if_le C 138 dL_areSeen_128 (by decide) ⟨by omega, by omega⟩ (fun hc9 => ?_) (fun hc9 => ?_)
        · skip
          refine z_iconst C 0 dL_areSeen_138 ?_
          refine z_ior C (z_or fa_9 0) dL_areSeen_139 (z_or_eq _ _) ?_
          refine z_istore_n C [(2, .int (z_I (z_or fa_9 0))), (1, .int (z_I (z_or sa_9 (z_p2 (ct.2.2.1.2.1 r_9))))), (4, .int (z_I (r_9 + 1))), (6, .int (z_I (ct.2.2.1.2.1 r_9))), (0, .ref (g 0)), (3, .int (z_I la_9)), (5, .int (z_I r_9))] dL_areSeen_140 (by decide) rfl ?_
          refine z_aload_n C 4 dL_areSeen_141 rfl ?_
          refine z_iload C 6 dL_areSeen_142 rfl ?_
          refine z_iconst C 3 dL_areSeen_144 ?_
          refine pq_seen (F := ct.2.2.1.2.2.2.2 (ct.2.2.1.2.1 r_9)) C gL_areSeen_X6_seen dL_areSeen_145 ⟨Nat.le_of_ble_eq_true rfl, Nat.le_of_ble_eq_true rfl⟩ ⟨Nat.le_of_ble_eq_true rfl, Nat.le_of_ble_eq_true rfl⟩ hx.1 ht r_9 3 ⟨by omega, by omega⟩ ⟨by omega, by omega⟩ (pa_seen3 (by omega)) (Nat.le_of_ble_eq_true rfl) ?_
          refine z_istore_n C [(3, .int (z_I (ct.2.2.1.2.2.2.2 (ct.2.2.1.2.1 r_9)))), (2, .int (z_I (z_or fa_9 0))), (1, .int (z_I (z_or sa_9 (z_p2 (ct.2.2.1.2.1 r_9))))), (4, .int (z_I (r_9 + 1))), (6, .int (z_I (ct.2.2.1.2.1 r_9))), (0, .ref (g 0)), (5, .int (z_I r_9))] dL_areSeen_148 (by decide) rfl ?_
          refine z_iinc C 6 [(5, .int (z_I (r_9 + 1))), (3, .int (z_I (ct.2.2.1.2.2.2.2 (ct.2.2.1.2.1 r_9)))), (2, .int (z_I (z_or fa_9 0))), (1, .int (z_I (z_or sa_9 (z_p2 (ct.2.2.1.2.1 r_9))))), (4, .int (z_I (r_9 + 1))), (6, .int (z_I (ct.2.2.1.2.1 r_9))), (0, .ref (g 0))] dL_areSeen_149 rfl (by decide) rfl ?_
          refine z_goto C 12 dL_areSeen_152 (by decide) ?_
          refine z_lsub [(0, .ref (g 0)), (1, .int (z_I (z_or sa_9 (z_p2 (ct.2.2.1.2.1 r_9))))), (2, .int (z_I (z_or fa_9 0))), (3, .int (z_I (ct.2.2.1.2.2.2.2 (ct.2.2.1.2.1 r_9)))), (4, .int (z_I (r_9 + 1))), (5, .int (z_I (r_9 + 1)))] [6, 3, 2, 1, 4, 0] rfl ?_
          exact ih12 (r_9 + 1) (z_or sa_9 (z_p2 (ct.2.2.1.2.1 r_9))) (z_or fa_9 0) (ct.2.2.1.2.2.2.2 (ct.2.2.1.2.1 r_9)) (by first | assumption | omega) (by first | assumption | omega) (by rw [x_set_s h0, if_pos (by omega), ← h1]) (by rw [x_set_s h0, if_neg (by omega), ← h2]) (Or.inr ⟨by omega, by rw [Int.add_sub_cancel]⟩) (by omega)
        · skip
          refine z_iconst C 1 dL_areSeen_131 ?_
          refine z_iload C 2 dL_areSeen_132 rfl ?_
          refine z_ishl C (z_p2 (ct.2.2.1.2.1 r_9)) dL_areSeen_134 (z_shl1 (by omega)) ?_
          refine z_goto C 139 dL_areSeen_135 (by decide) ?_
          refine z_ior C (z_or fa_9 (z_p2 (ct.2.2.1.2.1 r_9))) dL_areSeen_139 (z_or_eq _ _) ?_
          refine z_istore_n C [(2, .int (z_I (z_or fa_9 (z_p2 (ct.2.2.1.2.1 r_9))))), (1, .int (z_I (z_or sa_9 (z_p2 (ct.2.2.1.2.1 r_9))))), (4, .int (z_I (r_9 + 1))), (6, .int (z_I (ct.2.2.1.2.1 r_9))), (0, .ref (g 0)), (3, .int (z_I la_9)), (5, .int (z_I r_9))] dL_areSeen_140 (by decide) rfl ?_
          refine z_aload_n C 4 dL_areSeen_141 rfl ?_
          refine z_iload C 6 dL_areSeen_142 rfl ?_
          refine z_iconst C 3 dL_areSeen_144 ?_
          refine pq_seen (F := ct.2.2.1.2.2.2.2 (ct.2.2.1.2.1 r_9)) C gL_areSeen_X6_seen dL_areSeen_145 ⟨Nat.le_of_ble_eq_true rfl, Nat.le_of_ble_eq_true rfl⟩ ⟨Nat.le_of_ble_eq_true rfl, Nat.le_of_ble_eq_true rfl⟩ hx.1 ht r_9 3 ⟨by omega, by omega⟩ ⟨by omega, by omega⟩ (pa_seen3 (by omega)) (Nat.le_of_ble_eq_true rfl) ?_
          refine z_istore_n C [(3, .int (z_I (ct.2.2.1.2.2.2.2 (ct.2.2.1.2.1 r_9)))), (2, .int (z_I (z_or fa_9 (z_p2 (ct.2.2.1.2.1 r_9))))), (1, .int (z_I (z_or sa_9 (z_p2 (ct.2.2.1.2.1 r_9))))), (4, .int (z_I (r_9 + 1))), (6, .int (z_I (ct.2.2.1.2.1 r_9))), (0, .ref (g 0)), (5, .int (z_I r_9))] dL_areSeen_148 (by decide) rfl ?_
          refine z_iinc C 6 [(5, .int (z_I (r_9 + 1))), (3, .int (z_I (ct.2.2.1.2.2.2.2 (ct.2.2.1.2.1 r_9)))), (2, .int (z_I (z_or fa_9 (z_p2 (ct.2.2.1.2.1 r_9))))), (1, .int (z_I (z_or sa_9 (z_p2 (ct.2.2.1.2.1 r_9))))), (4, .int (z_I (r_9 + 1))), (6, .int (z_I (ct.2.2.1.2.1 r_9))), (0, .ref (g 0))] dL_areSeen_149 rfl (by decide) rfl ?_
          refine z_goto C 12 dL_areSeen_152 (by decide) ?_
          refine z_lsub [(0, .ref (g 0)), (1, .int (z_I (z_or sa_9 (z_p2 (ct.2.2.1.2.1 r_9))))), (2, .int (z_I (z_or fa_9 (z_p2 (ct.2.2.1.2.1 r_9))))), (3, .int (z_I (ct.2.2.1.2.2.2.2 (ct.2.2.1.2.1 r_9)))), (4, .int (z_I (r_9 + 1))), (5, .int (z_I (r_9 + 1)))] [6, 3, 2, 1, 4, 0] rfl ?_
          exact ih12 (r_9 + 1) (z_or sa_9 (z_p2 (ct.2.2.1.2.1 r_9))) (z_or fa_9 (z_p2 (ct.2.2.1.2.1 r_9))) (ct.2.2.1.2.2.2.2 (ct.2.2.1.2.1 r_9)) (by first | assumption | omega) (by first | assumption | omega) (by rw [x_set_s h0, if_pos (by omega), ← h1]) (by rw [x_set_s h0, if_pos (by omega), ← h2]) (Or.inr ⟨by omega, by rw [Int.add_sub_cancel]⟩) (by omega)
      · skip
        obtain rfl : r_9 = ct.2.2.1.1 := by omega
        refine z_aload_n C 0 dL_areSeen_19 rfl ?_
        refine z_iload C 5 dL_areSeen_20 rfl ?_
        refine z_iconst C 0 dL_areSeen_22 ?_
        refine pq_seen (F := (-1)) C gL_areSeen_X6_seen dL_areSeen_23 ⟨Nat.le_of_ble_eq_true rfl, Nat.le_of_ble_eq_true rfl⟩ ⟨Nat.le_of_ble_eq_true rfl, Nat.le_of_ble_eq_true rfl⟩ hx.1 ht ct.2.2.1.1 0 ⟨by omega, by omega⟩ ⟨by omega, by omega⟩ (pa_seenN (by omega)) (Nat.le_of_ble_eq_true rfl) ?_
        refine z_istore C [(6, .int (z_I (-1))), (0, .ref (g 0)), (1, .int (z_I sa_9)), (2, .int (z_I fa_9)), (3, .int (z_I la_9)), (4, .int (z_I ct.2.2.1.1)), (5, .int (z_I ct.2.2.1.1))] dL_areSeen_26 (by decide) rfl ?_
        refine z_iload C 0 dL_areSeen_28 rfl ?_
        refine z_if_ge C 36 dL_areSeen_30 (by decide) ⟨by omega, by omega⟩ (fun hc10 => absurd hc10 (by omega)) (fun hc10 => ?_)
        refine z_goto C 155 dL_areSeen_33 (by decide) ?_
        refine z_iconst C 0 dL_areSeen_155 ?_
        refine z_istore C [(5, .int (z_I 0)), (6, .int (z_I (-1))), (0, .ref (g 0)), (1, .int (z_I sa_9)), (2, .int (z_I fa_9)), (3, .int (z_I la_9)), (4, .int (z_I ct.2.2.1.1))] dL_areSeen_156 (by decide) rfl ?_
        refine z_iconst C 0 dL_areSeen_158 ?_
        refine z_istore C [(6, .int (z_I 0)), (5, .int (z_I 0)), (0, .ref (g 0)), (1, .int (z_I sa_9)), (2, .int (z_I fa_9)), (3, .int (z_I la_9)), (4, .int (z_I ct.2.2.1.1))] dL_areSeen_159 (by decide) rfl ?_
        have loop161 : ∀ (zn : Nat) (i_9 : Int) (ac_9 : Int), 0 ≤ i_9 → i_9 ≤ ct.2.1.1 → ac_9 = x_c5 ct i_9 → ct.2.1.1 - i_9 < (zn : Int) → z_V p l e { frames := 3, cells := 0, slots := 0, locals := 65 } s m args below meth c D A 8 0 0 Q ((pw cI cZ cO g ct J ++ []).flatten) 161 [(0, .ref (g 0)), (1, .int (z_I sa_9)), (2, .int (z_I fa_9)), (4, .int (z_I ct.2.2.1.1)), (5, .int (z_I ac_9)), (6, .int (z_I i_9))] [] := by
          intro zn
          induction zn with
          | zero => intro i_9 ac_9 i0 i1 h5 hm; exact absurd hm (by omega)
          | succ zn161 ih161 =>
            intro i_9 ac_9 i0 i1 h5 hm161
            have rc := (y_cnt (P := fun j => ct.2.1.2.1 j = ct.2.1.2.2.2.1 j) i_9.toNat).1
            have rc2 := x_c5_le (ct := ct) i0
            have ric : 0 ≤ ac_9 := by rw [h5]; exact rc
            rw [← h5] at rc2
            refine z_iload C 5 dL_areSeen_161 rfl ?_
            refine z_aload_n C 0 dL_areSeen_163 rfl ?_
            refine z_iconst C 4 dL_areSeen_164 ?_
            refine pq_count (F := ct.2.1.1) C gL_areSeen_X6_count dL_areSeen_165 ⟨Nat.le_of_ble_eq_true rfl, Nat.le_of_ble_eq_true rfl⟩ ⟨Nat.le_of_ble_eq_true rfl, Nat.le_of_ble_eq_true rfl⟩ hx.1 ht 4 ⟨by omega, by omega⟩ (pa_count4 (kp := J.1)) (Nat.le_of_ble_eq_true rfl) ?_
            refine z_icmp_ge C 274 dL_areSeen_168 (by decide) ⟨by omega, by omega⟩ ⟨by omega, by omega⟩ (fun hc11 => ?_) (fun hc11 => ?_)
            · skip
              obtain rfl : i_9 = ct.2.1.1 := by omega
              have e6 : x_c6 ct = x_set ct.2.2.1.2.2.1 ct.2.2.1.2.1 (ct.2.2.1.1).toNat := x_set_E sn0.1 hr32 hso.2.2.2.2.2
              have e7 : x_c7 ct = x_set ct.2.2.1.2.2.2.1 ct.2.2.1.2.1 (ct.2.2.1.1).toNat := x_set_E sn0.1 hr32 (fun v v1 v2 v3 => hso.2.2.2.2.2 v v1 v2 (by have := hso.2.2.1 v v1 v2; omega))
              refine z_aload_n C 0 dL_areSeen_274 rfl ?_
              refine z_bipush C 6 dL_areSeen_275 (by decide) ?_
              refine pq_count (F := x_c6 ct) C gL_areSeen_X6_count dL_areSeen_277 ⟨Nat.le_of_ble_eq_true rfl, Nat.le_of_ble_eq_true rfl⟩ ⟨Nat.le_of_ble_eq_true rfl, Nat.le_of_ble_eq_true rfl⟩ hx.1 ht 6 ⟨by omega, by omega⟩ (pa_count6 (kp := J.1)) (Nat.le_of_ble_eq_true rfl) ?_
              refine z_iload_n C 1 dL_areSeen_280 rfl ?_
              refine z_icmp_ne C 333 dL_areSeen_281 (by decide) (by rw [e6]; exact x_set_can _ _ _) rs (fun hc12 => absurd hc12 (by omega)) (fun hc12 => ?_)
              refine z_aload_n C 0 dL_areSeen_284 rfl ?_
              refine z_bipush C 7 dL_areSeen_285 (by decide) ?_
              refine pq_count (F := x_c7 ct) C gL_areSeen_X6_count dL_areSeen_287 ⟨Nat.le_of_ble_eq_true rfl, Nat.le_of_ble_eq_true rfl⟩ ⟨Nat.le_of_ble_eq_true rfl, Nat.le_of_ble_eq_true rfl⟩ hx.1 ht 7 ⟨by omega, by omega⟩ (pa_count7 (kp := J.1)) (Nat.le_of_ble_eq_true rfl) ?_
              refine z_iload_n C 2 dL_areSeen_290 rfl ?_
              refine z_icmp_ne C 333 dL_areSeen_291 (by decide) (by rw [e7]; exact x_set_can _ _ _) rf (fun hc13 => absurd hc13 (by omega)) (fun hc13 => ?_)
              refine z_aload_n C 0 dL_areSeen_294 rfl ?_
              refine z_iconst C 5 dL_areSeen_295 ?_
              refine pq_count (F := x_c5 ct ct.2.1.1) C gL_areSeen_X6_count dL_areSeen_296 ⟨Nat.le_of_ble_eq_true rfl, Nat.le_of_ble_eq_true rfl⟩ ⟨Nat.le_of_ble_eq_true rfl, Nat.le_of_ble_eq_true rfl⟩ hx.1 ht 5 ⟨by omega, by omega⟩ (pa_count5 (kp := J.1)) (Nat.le_of_ble_eq_true rfl) ?_
              refine z_iload C 4 dL_areSeen_299 rfl ?_
              refine z_icmp_ne C 333 dL_areSeen_301 (by decide) ⟨by omega, by omega⟩ ⟨by omega, by omega⟩ (fun hc14 => absurd hc14 (by omega)) (fun hc14 => ?_)
              refine z_aload_n C 0 dL_areSeen_304 rfl ?_
              refine z_iload C 3 dL_areSeen_305 rfl ?_
              refine z_iconst C 0 dL_areSeen_307 ?_
              refine pq_seen (F := (-1)) C gL_areSeen_X6_seen dL_areSeen_308 ⟨Nat.le_of_ble_eq_true rfl, Nat.le_of_ble_eq_true rfl⟩ ⟨Nat.le_of_ble_eq_true rfl, Nat.le_of_ble_eq_true rfl⟩ hx.1 ht ct.2.2.1.1 0 ⟨by omega, by omega⟩ ⟨by omega, by omega⟩ (pa_seenN (by omega)) (Nat.le_of_ble_eq_true rfl) ?_
              refine z_iconst C (-1) dL_areSeen_311 ?_
              refine z_icmp_ne C 333 dL_areSeen_312 (by decide) ⟨by omega, by omega⟩ ⟨by omega, by omega⟩ (fun hc15 => absurd hc15 (by omega)) (fun hc15 => ?_)
              refine z_aload_n C 0 dL_areSeen_315 rfl ?_
              refine z_aload_n C 0 dL_areSeen_316 rfl ?_
              refine z_iconst C 4 dL_areSeen_317 ?_
              refine pq_count (F := ct.2.1.1) C gL_areSeen_X6_count dL_areSeen_318 ⟨Nat.le_of_ble_eq_true rfl, Nat.le_of_ble_eq_true rfl⟩ ⟨Nat.le_of_ble_eq_true rfl, Nat.le_of_ble_eq_true rfl⟩ hx.1 ht 4 ⟨by omega, by omega⟩ (pa_count4 (kp := J.1)) (Nat.le_of_ble_eq_true rfl) ?_
              refine z_iconst C 0 dL_areSeen_321 ?_
              refine pq_reading (F := (-1)) C gL_areSeen_X6_reading dL_areSeen_322 ⟨Nat.le_of_ble_eq_true rfl, Nat.le_of_ble_eq_true rfl⟩ ⟨Nat.le_of_ble_eq_true rfl, Nat.le_of_ble_eq_true rfl⟩ hx.1 ht ct.2.1.1 0 ⟨by omega, by omega⟩ ⟨by omega, by omega⟩ (pa_readingN (by omega)) (Nat.le_of_ble_eq_true rfl) ?_
              refine z_iconst C (-1) dL_areSeen_325 ?_
              refine z_icmp_ne C 333 dL_areSeen_326 (by decide) ⟨by omega, by omega⟩ ⟨by omega, by omega⟩ (fun hc16 => absurd hc16 (by omega)) (fun hc16 => ?_)
              refine z_iconst C 1 dL_areSeen_329 ?_
              refine z_goto C 334 dL_areSeen_330 (by decide) ?_
              exact z_zret C hQ rfl rfl (Or.inr rfl) dL_areSeen_334
            · skip
              refine z_iload C 5 dL_areSeen_171 rfl ?_
              refine z_bipush C 99 dL_areSeen_173 (by decide) ?_
              refine z_icmp_ge C 274 dL_areSeen_175 (by decide) ⟨by omega, by omega⟩ ⟨by omega, by omega⟩ (fun hc17 => absurd hc17 (by omega)) (fun hc17 => ?_)
              obtain ⟨nu1, co1, ti1⟩ := hro.2.1 i_9 i0 (by omega)
              have hl01 : 0 ≤ (if ct.2.1.2.2.2.2 i_9 = 0 then (0 : Int) else 1) ∧ (if ct.2.1.2.2.2.2 i_9 = 0 then (0 : Int) else 1) ≤ 1 := by split <;> omega
              by_cases hq2 : ct.2.1.2.1 i_9 = ct.2.1.2.2.2.1 i_9
              · skip
                refine z_aload_n C 0 dL_areSeen_178 rfl ?_
                refine z_iload C 5 dL_areSeen_179 rfl ?_
                refine z_iconst C 4 dL_areSeen_181 ?_
                refine pq_reading (F := 1) C gL_areSeen_X6_reading dL_areSeen_182 ⟨Nat.le_of_ble_eq_true rfl, Nat.le_of_ble_eq_true rfl⟩ ⟨Nat.le_of_ble_eq_true rfl, Nat.le_of_ble_eq_true rfl⟩ hx.1 ht i_9 4 ⟨by omega, by omega⟩ ⟨by omega, by omega⟩ (pa_reading4y (by omega) hq2) (Nat.le_of_ble_eq_true rfl) ?_
                refine z_istore C [(7, .int (z_I 1)), (0, .ref (g 0)), (1, .int (z_I sa_9)), (2, .int (z_I fa_9)), (4, .int (z_I ct.2.2.1.1)), (5, .int (z_I ac_9)), (6, .int (z_I i_9))] dL_areSeen_185 (by decide) rfl ?_
                refine z_iload C 5 dL_areSeen_187 rfl ?_
                refine z_iload C 0 dL_areSeen_189 rfl ?_
                refine z_iadd C dL_areSeen_191 ?_
                refine z_istore C [(5, .int (z_I (ac_9 + 1))), (7, .int (z_I 1)), (0, .ref (g 0)), (1, .int (z_I sa_9)), (2, .int (z_I fa_9)), (4, .int (z_I ct.2.2.1.1)), (6, .int (z_I i_9))] dL_areSeen_192 (by decide) rfl ?_
                refine z_iload C 1 dL_areSeen_194 rfl ?_
                refine z_aload_n C 2 dL_areSeen_196 rfl ?_
                refine z_iload C 6 dL_areSeen_197 rfl ?_
                refine z_iconst C 0 dL_areSeen_199 ?_
                refine pq_reading (F := ct.2.1.2.1 i_9) C gL_areSeen_X6_reading dL_areSeen_200 ⟨Nat.le_of_ble_eq_true rfl, Nat.le_of_ble_eq_true rfl⟩ ⟨Nat.le_of_ble_eq_true rfl, Nat.le_of_ble_eq_true rfl⟩ hx.1 ht i_9 0 ⟨by omega, by omega⟩ ⟨by omega, by omega⟩ (pa_reading0 (by omega)) (Nat.le_of_ble_eq_true rfl) ?_
                refine z_aload_n C 2 dL_areSeen_203 rfl ?_
                refine z_iload C 6 dL_areSeen_204 rfl ?_
                refine z_iconst C 2 dL_areSeen_206 ?_
                refine pq_reading (F := ct.2.1.2.2.2.1 i_9) C gL_areSeen_X6_reading dL_areSeen_207 ⟨Nat.le_of_ble_eq_true rfl, Nat.le_of_ble_eq_true rfl⟩ ⟨Nat.le_of_ble_eq_true rfl, Nat.le_of_ble_eq_true rfl⟩ hx.1 ht i_9 2 ⟨by omega, by omega⟩ ⟨by omega, by omega⟩ (pa_reading2 (by omega)) (Nat.le_of_ble_eq_true rfl) ?_
                refine z_icmp_ne C 217 dL_areSeen_210 (by decide) ⟨by omega, by omega⟩ ⟨by omega, by omega⟩ (fun hc18 => absurd hc18 (by omega)) (fun hc18 => ?_)
                refine z_iconst C 1 dL_areSeen_213 ?_
                refine z_goto C 218 dL_areSeen_214 (by decide) ?_
                refine z_icmp_ne C 266 dL_areSeen_218 (by decide) ⟨by omega, by omega⟩ ⟨by omega, by omega⟩ (fun hc19 => absurd hc19 (by omega)) (fun hc19 => ?_)
                refine z_iload C 6 dL_areSeen_221 rfl ?_
                refine z_if_le C 245 dL_areSeen_223 (by decide) ⟨by omega, by omega⟩ (fun hc20 => ?_) (fun hc20 => ?_)
                · skip
                  refine z_aload_n C 2 dL_areSeen_245 rfl ?_
                  refine z_iload C 6 dL_areSeen_246 rfl ?_
                  refine z_iconst C 3 dL_areSeen_248 ?_
                  refine pq_reading (F := if ct.2.1.2.2.2.2 i_9 = 0 then 0 else 1) C gL_areSeen_X6_reading dL_areSeen_249 ⟨Nat.le_of_ble_eq_true rfl, Nat.le_of_ble_eq_true rfl⟩ ⟨Nat.le_of_ble_eq_true rfl, Nat.le_of_ble_eq_true rfl⟩ hx.1 ht i_9 3 ⟨by omega, by omega⟩ ⟨by omega, by omega⟩ (pa_reading3 (by omega)) (Nat.le_of_ble_eq_true rfl) ?_
                  refine z_if_lt C 266 dL_areSeen_252 (by decide) ⟨by omega, by omega⟩ (fun hc21 => absurd hc21 (by omega)) (fun hc21 => ?_)
                  refine z_aload_n C 2 dL_areSeen_255 rfl ?_
                  refine z_iload C 6 dL_areSeen_256 rfl ?_
                  refine z_iconst C 3 dL_areSeen_258 ?_
                  refine pq_reading (F := if ct.2.1.2.2.2.2 i_9 = 0 then 0 else 1) C gL_areSeen_X6_reading dL_areSeen_259 ⟨Nat.le_of_ble_eq_true rfl, Nat.le_of_ble_eq_true rfl⟩ ⟨Nat.le_of_ble_eq_true rfl, Nat.le_of_ble_eq_true rfl⟩ hx.1 ht i_9 3 ⟨by omega, by omega⟩ ⟨by omega, by omega⟩ (pa_reading3 (by omega)) (Nat.le_of_ble_eq_true rfl) ?_
                  refine z_iconst C 1 dL_areSeen_262 ?_
                  refine z_icmp_le C 268 dL_areSeen_263 (by decide) ⟨by omega, by omega⟩ ⟨by omega, by omega⟩ (fun hc22 => ?_) (fun hc22 => absurd hc22 (by omega))
                  refine z_iinc C 6 [(6, .int (z_I (i_9 + 1))), (5, .int (z_I (ac_9 + 1))), (7, .int (z_I 1)), (0, .ref (g 0)), (1, .int (z_I sa_9)), (2, .int (z_I fa_9)), (4, .int (z_I ct.2.2.1.1))] dL_areSeen_268 rfl (by decide) rfl ?_
                  refine z_goto C 161 dL_areSeen_271 (by decide) ?_
                  refine z_lsub [(0, .ref (g 0)), (1, .int (z_I sa_9)), (2, .int (z_I fa_9)), (4, .int (z_I ct.2.2.1.1)), (5, .int (z_I (ac_9 + 1))), (6, .int (z_I (i_9 + 1)))] [3, 4, 5, 6, 1, 0] rfl ?_
                  exact ih161 (i_9 + 1) (ac_9 + 1) (by first | assumption | omega) (by first | assumption | omega) (by unfold x_c5; rw [z_it_next _ _ i0, if_pos hq2]; show _ = z_it (fun j a => if ct.2.1.2.1 j = ct.2.1.2.2.2.1 j then a + 1 else a) 0 i_9.toNat + 1; rw [h5]; unfold x_c5; omega) (by omega)
                · skip
                  have hti := hrk (i_9 - 1) i_9 (by omega) (by omega) (by omega)
                  obtain ⟨-, -, ti2⟩ := hro.2.1 (i_9 - 1) (by omega) (by omega)
                  refine z_aload_n C 2 dL_areSeen_226 rfl ?_
                  refine z_iload C 6 dL_areSeen_227 rfl ?_
                  refine z_iconst C 1 dL_areSeen_229 ?_
                  refine pq_reading (F := ct.2.1.2.2.1 i_9) C gL_areSeen_X6_reading dL_areSeen_230 ⟨Nat.le_of_ble_eq_true rfl, Nat.le_of_ble_eq_true rfl⟩ ⟨Nat.le_of_ble_eq_true rfl, Nat.le_of_ble_eq_true rfl⟩ hx.1 ht i_9 1 ⟨by omega, by omega⟩ ⟨by omega, by omega⟩ (pa_reading1 (by omega)) (Nat.le_of_ble_eq_true rfl) ?_
                  refine z_aload_n C 2 dL_areSeen_233 rfl ?_
                  refine z_iload C 6 dL_areSeen_234 rfl ?_
                  refine z_iconst C 1 dL_areSeen_236 ?_
                  refine z_isub C dL_areSeen_237 ?_
                  refine z_iconst C 1 dL_areSeen_238 ?_
                  refine pq_reading (F := ct.2.1.2.2.1 (i_9 - 1)) C gL_areSeen_X6_reading dL_areSeen_239 ⟨Nat.le_of_ble_eq_true rfl, Nat.le_of_ble_eq_true rfl⟩ ⟨Nat.le_of_ble_eq_true rfl, Nat.le_of_ble_eq_true rfl⟩ hx.1 ht (i_9 - 1) 1 ⟨by omega, by omega⟩ ⟨by omega, by omega⟩ (pa_reading1 (by omega)) (Nat.le_of_ble_eq_true rfl) ?_
                  refine z_icmp_lt C 266 dL_areSeen_242 (by decide) ⟨by omega, by omega⟩ ⟨by omega, by omega⟩ (fun hc23 => absurd hc23 (by omega)) (fun hc23 => ?_)
                  refine z_aload_n C 2 dL_areSeen_245 rfl ?_
                  refine z_iload C 6 dL_areSeen_246 rfl ?_
                  refine z_iconst C 3 dL_areSeen_248 ?_
                  refine pq_reading (F := if ct.2.1.2.2.2.2 i_9 = 0 then 0 else 1) C gL_areSeen_X6_reading dL_areSeen_249 ⟨Nat.le_of_ble_eq_true rfl, Nat.le_of_ble_eq_true rfl⟩ ⟨Nat.le_of_ble_eq_true rfl, Nat.le_of_ble_eq_true rfl⟩ hx.1 ht i_9 3 ⟨by omega, by omega⟩ ⟨by omega, by omega⟩ (pa_reading3 (by omega)) (Nat.le_of_ble_eq_true rfl) ?_
                  refine z_if_lt C 266 dL_areSeen_252 (by decide) ⟨by omega, by omega⟩ (fun hc24 => absurd hc24 (by omega)) (fun hc24 => ?_)
                  refine z_aload_n C 2 dL_areSeen_255 rfl ?_
                  refine z_iload C 6 dL_areSeen_256 rfl ?_
                  refine z_iconst C 3 dL_areSeen_258 ?_
                  refine pq_reading (F := if ct.2.1.2.2.2.2 i_9 = 0 then 0 else 1) C gL_areSeen_X6_reading dL_areSeen_259 ⟨Nat.le_of_ble_eq_true rfl, Nat.le_of_ble_eq_true rfl⟩ ⟨Nat.le_of_ble_eq_true rfl, Nat.le_of_ble_eq_true rfl⟩ hx.1 ht i_9 3 ⟨by omega, by omega⟩ ⟨by omega, by omega⟩ (pa_reading3 (by omega)) (Nat.le_of_ble_eq_true rfl) ?_
                  refine z_iconst C 1 dL_areSeen_262 ?_
                  refine z_icmp_le C 268 dL_areSeen_263 (by decide) ⟨by omega, by omega⟩ ⟨by omega, by omega⟩ (fun hc25 => ?_) (fun hc25 => absurd hc25 (by omega))
                  refine z_iinc C 6 [(6, .int (z_I (i_9 + 1))), (5, .int (z_I (ac_9 + 1))), (7, .int (z_I 1)), (0, .ref (g 0)), (1, .int (z_I sa_9)), (2, .int (z_I fa_9)), (4, .int (z_I ct.2.2.1.1))] dL_areSeen_268 rfl (by decide) rfl ?_
                  refine z_goto C 161 dL_areSeen_271 (by decide) ?_
                  refine z_lsub [(0, .ref (g 0)), (1, .int (z_I sa_9)), (2, .int (z_I fa_9)), (4, .int (z_I ct.2.2.1.1)), (5, .int (z_I (ac_9 + 1))), (6, .int (z_I (i_9 + 1)))] [3, 4, 5, 6, 1, 0] rfl ?_
                  exact ih161 (i_9 + 1) (ac_9 + 1) (by first | assumption | omega) (by first | assumption | omega) (by unfold x_c5; rw [z_it_next _ _ i0, if_pos hq2]; show _ = z_it (fun j a => if ct.2.1.2.1 j = ct.2.1.2.2.2.1 j then a + 1 else a) 0 i_9.toNat + 1; rw [h5]; unfold x_c5; omega) (by omega)
              · skip
                refine z_aload_n C 0 dL_areSeen_178 rfl ?_
                refine z_iload C 5 dL_areSeen_179 rfl ?_
                refine z_iconst C 4 dL_areSeen_181 ?_
                refine pq_reading (F := 0) C gL_areSeen_X6_reading dL_areSeen_182 ⟨Nat.le_of_ble_eq_true rfl, Nat.le_of_ble_eq_true rfl⟩ ⟨Nat.le_of_ble_eq_true rfl, Nat.le_of_ble_eq_true rfl⟩ hx.1 ht i_9 4 ⟨by omega, by omega⟩ ⟨by omega, by omega⟩ (pa_reading4n (by omega) hq2) (Nat.le_of_ble_eq_true rfl) ?_
                refine z_istore C [(7, .int (z_I 0)), (0, .ref (g 0)), (1, .int (z_I sa_9)), (2, .int (z_I fa_9)), (4, .int (z_I ct.2.2.1.1)), (5, .int (z_I ac_9)), (6, .int (z_I i_9))] dL_areSeen_185 (by decide) rfl ?_
                refine z_iload C 5 dL_areSeen_187 rfl ?_
                refine z_iload C 0 dL_areSeen_189 rfl ?_
                refine z_iadd C dL_areSeen_191 ?_
                refine z_istore C [(5, .int (z_I (ac_9 + 0))), (7, .int (z_I 0)), (0, .ref (g 0)), (1, .int (z_I sa_9)), (2, .int (z_I fa_9)), (4, .int (z_I ct.2.2.1.1)), (6, .int (z_I i_9))] dL_areSeen_192 (by decide) rfl ?_
                refine z_iload C 1 dL_areSeen_194 rfl ?_
                refine z_aload_n C 2 dL_areSeen_196 rfl ?_
                refine z_iload C 6 dL_areSeen_197 rfl ?_
                refine z_iconst C 0 dL_areSeen_199 ?_
                refine pq_reading (F := ct.2.1.2.1 i_9) C gL_areSeen_X6_reading dL_areSeen_200 ⟨Nat.le_of_ble_eq_true rfl, Nat.le_of_ble_eq_true rfl⟩ ⟨Nat.le_of_ble_eq_true rfl, Nat.le_of_ble_eq_true rfl⟩ hx.1 ht i_9 0 ⟨by omega, by omega⟩ ⟨by omega, by omega⟩ (pa_reading0 (by omega)) (Nat.le_of_ble_eq_true rfl) ?_
                refine z_aload_n C 2 dL_areSeen_203 rfl ?_
                refine z_iload C 6 dL_areSeen_204 rfl ?_
                refine z_iconst C 2 dL_areSeen_206 ?_
                refine pq_reading (F := ct.2.1.2.2.2.1 i_9) C gL_areSeen_X6_reading dL_areSeen_207 ⟨Nat.le_of_ble_eq_true rfl, Nat.le_of_ble_eq_true rfl⟩ ⟨Nat.le_of_ble_eq_true rfl, Nat.le_of_ble_eq_true rfl⟩ hx.1 ht i_9 2 ⟨by omega, by omega⟩ ⟨by omega, by omega⟩ (pa_reading2 (by omega)) (Nat.le_of_ble_eq_true rfl) ?_
                refine z_icmp_ne C 217 dL_areSeen_210 (by decide) ⟨by omega, by omega⟩ ⟨by omega, by omega⟩ (fun hc26 => ?_) (fun hc26 => absurd hc26 (by omega))
                refine z_iconst C 0 dL_areSeen_217 ?_
                refine z_icmp_ne C 266 dL_areSeen_218 (by decide) ⟨by omega, by omega⟩ ⟨by omega, by omega⟩ (fun hc27 => absurd hc27 (by omega)) (fun hc27 => ?_)
                refine z_iload C 6 dL_areSeen_221 rfl ?_
                refine z_if_le C 245 dL_areSeen_223 (by decide) ⟨by omega, by omega⟩ (fun hc28 => ?_) (fun hc28 => ?_)
                · skip
                  refine z_aload_n C 2 dL_areSeen_245 rfl ?_
                  refine z_iload C 6 dL_areSeen_246 rfl ?_
                  refine z_iconst C 3 dL_areSeen_248 ?_
                  refine pq_reading (F := if ct.2.1.2.2.2.2 i_9 = 0 then 0 else 1) C gL_areSeen_X6_reading dL_areSeen_249 ⟨Nat.le_of_ble_eq_true rfl, Nat.le_of_ble_eq_true rfl⟩ ⟨Nat.le_of_ble_eq_true rfl, Nat.le_of_ble_eq_true rfl⟩ hx.1 ht i_9 3 ⟨by omega, by omega⟩ ⟨by omega, by omega⟩ (pa_reading3 (by omega)) (Nat.le_of_ble_eq_true rfl) ?_
                  refine z_if_lt C 266 dL_areSeen_252 (by decide) ⟨by omega, by omega⟩ (fun hc29 => absurd hc29 (by omega)) (fun hc29 => ?_)
                  refine z_aload_n C 2 dL_areSeen_255 rfl ?_
                  refine z_iload C 6 dL_areSeen_256 rfl ?_
                  refine z_iconst C 3 dL_areSeen_258 ?_
                  refine pq_reading (F := if ct.2.1.2.2.2.2 i_9 = 0 then 0 else 1) C gL_areSeen_X6_reading dL_areSeen_259 ⟨Nat.le_of_ble_eq_true rfl, Nat.le_of_ble_eq_true rfl⟩ ⟨Nat.le_of_ble_eq_true rfl, Nat.le_of_ble_eq_true rfl⟩ hx.1 ht i_9 3 ⟨by omega, by omega⟩ ⟨by omega, by omega⟩ (pa_reading3 (by omega)) (Nat.le_of_ble_eq_true rfl) ?_
                  refine z_iconst C 1 dL_areSeen_262 ?_
                  refine z_icmp_le C 268 dL_areSeen_263 (by decide) ⟨by omega, by omega⟩ ⟨by omega, by omega⟩ (fun hc30 => ?_) (fun hc30 => absurd hc30 (by omega))
                  refine z_iinc C 6 [(6, .int (z_I (i_9 + 1))), (5, .int (z_I (ac_9 + 0))), (7, .int (z_I 0)), (0, .ref (g 0)), (1, .int (z_I sa_9)), (2, .int (z_I fa_9)), (4, .int (z_I ct.2.2.1.1))] dL_areSeen_268 rfl (by decide) rfl ?_
                  refine z_goto C 161 dL_areSeen_271 (by decide) ?_
                  refine z_lsub [(0, .ref (g 0)), (1, .int (z_I sa_9)), (2, .int (z_I fa_9)), (4, .int (z_I ct.2.2.1.1)), (5, .int (z_I (ac_9 + 0))), (6, .int (z_I (i_9 + 1)))] [3, 4, 5, 6, 1, 0] rfl ?_
                  exact ih161 (i_9 + 1) (ac_9 + 0) (by first | assumption | omega) (by first | assumption | omega) (by unfold x_c5; rw [z_it_next _ _ i0, if_neg hq2]; rw [h5]; unfold x_c5; omega) (by omega)
                · skip
                  have hti := hrk (i_9 - 1) i_9 (by omega) (by omega) (by omega)
                  obtain ⟨-, -, ti2⟩ := hro.2.1 (i_9 - 1) (by omega) (by omega)
                  refine z_aload_n C 2 dL_areSeen_226 rfl ?_
                  refine z_iload C 6 dL_areSeen_227 rfl ?_
                  refine z_iconst C 1 dL_areSeen_229 ?_
                  refine pq_reading (F := ct.2.1.2.2.1 i_9) C gL_areSeen_X6_reading dL_areSeen_230 ⟨Nat.le_of_ble_eq_true rfl, Nat.le_of_ble_eq_true rfl⟩ ⟨Nat.le_of_ble_eq_true rfl, Nat.le_of_ble_eq_true rfl⟩ hx.1 ht i_9 1 ⟨by omega, by omega⟩ ⟨by omega, by omega⟩ (pa_reading1 (by omega)) (Nat.le_of_ble_eq_true rfl) ?_
                  refine z_aload_n C 2 dL_areSeen_233 rfl ?_
                  refine z_iload C 6 dL_areSeen_234 rfl ?_
                  refine z_iconst C 1 dL_areSeen_236 ?_
                  refine z_isub C dL_areSeen_237 ?_
                  refine z_iconst C 1 dL_areSeen_238 ?_
                  refine pq_reading (F := ct.2.1.2.2.1 (i_9 - 1)) C gL_areSeen_X6_reading dL_areSeen_239 ⟨Nat.le_of_ble_eq_true rfl, Nat.le_of_ble_eq_true rfl⟩ ⟨Nat.le_of_ble_eq_true rfl, Nat.le_of_ble_eq_true rfl⟩ hx.1 ht (i_9 - 1) 1 ⟨by omega, by omega⟩ ⟨by omega, by omega⟩ (pa_reading1 (by omega)) (Nat.le_of_ble_eq_true rfl) ?_
                  refine z_icmp_lt C 266 dL_areSeen_242 (by decide) ⟨by omega, by omega⟩ ⟨by omega, by omega⟩ (fun hc31 => absurd hc31 (by omega)) (fun hc31 => ?_)
                  refine z_aload_n C 2 dL_areSeen_245 rfl ?_
                  refine z_iload C 6 dL_areSeen_246 rfl ?_
                  refine z_iconst C 3 dL_areSeen_248 ?_
                  refine pq_reading (F := if ct.2.1.2.2.2.2 i_9 = 0 then 0 else 1) C gL_areSeen_X6_reading dL_areSeen_249 ⟨Nat.le_of_ble_eq_true rfl, Nat.le_of_ble_eq_true rfl⟩ ⟨Nat.le_of_ble_eq_true rfl, Nat.le_of_ble_eq_true rfl⟩ hx.1 ht i_9 3 ⟨by omega, by omega⟩ ⟨by omega, by omega⟩ (pa_reading3 (by omega)) (Nat.le_of_ble_eq_true rfl) ?_
                  refine z_if_lt C 266 dL_areSeen_252 (by decide) ⟨by omega, by omega⟩ (fun hc32 => absurd hc32 (by omega)) (fun hc32 => ?_)
                  refine z_aload_n C 2 dL_areSeen_255 rfl ?_
                  refine z_iload C 6 dL_areSeen_256 rfl ?_
                  refine z_iconst C 3 dL_areSeen_258 ?_
                  refine pq_reading (F := if ct.2.1.2.2.2.2 i_9 = 0 then 0 else 1) C gL_areSeen_X6_reading dL_areSeen_259 ⟨Nat.le_of_ble_eq_true rfl, Nat.le_of_ble_eq_true rfl⟩ ⟨Nat.le_of_ble_eq_true rfl, Nat.le_of_ble_eq_true rfl⟩ hx.1 ht i_9 3 ⟨by omega, by omega⟩ ⟨by omega, by omega⟩ (pa_reading3 (by omega)) (Nat.le_of_ble_eq_true rfl) ?_
                  refine z_iconst C 1 dL_areSeen_262 ?_
                  refine z_icmp_le C 268 dL_areSeen_263 (by decide) ⟨by omega, by omega⟩ ⟨by omega, by omega⟩ (fun hc33 => ?_) (fun hc33 => absurd hc33 (by omega))
                  refine z_iinc C 6 [(6, .int (z_I (i_9 + 1))), (5, .int (z_I (ac_9 + 0))), (7, .int (z_I 0)), (0, .ref (g 0)), (1, .int (z_I sa_9)), (2, .int (z_I fa_9)), (4, .int (z_I ct.2.2.1.1))] dL_areSeen_268 rfl (by decide) rfl ?_
                  refine z_goto C 161 dL_areSeen_271 (by decide) ?_
                  refine z_lsub [(0, .ref (g 0)), (1, .int (z_I sa_9)), (2, .int (z_I fa_9)), (4, .int (z_I ct.2.2.1.1)), (5, .int (z_I (ac_9 + 0))), (6, .int (z_I (i_9 + 1)))] [3, 4, 5, 6, 1, 0] rfl ?_
                  exact ih161 (i_9 + 1) (ac_9 + 0) (by first | assumption | omega) (by first | assumption | omega) (by unfold x_c5; rw [z_it_next _ _ i0, if_neg hq2]; rw [h5]; unfold x_c5; omega) (by omega)
        refine z_lsub [(0, .ref (g 0)), (1, .int (z_I sa_9)), (2, .int (z_I fa_9)), (4, .int (z_I ct.2.2.1.1)), (5, .int (z_I 0)), (6, .int (z_I 0))] [2, 3, 4, 6, 1, 0] rfl ?_
        exact loop161 100 0 0 (by first | assumption | omega) (by first | assumption | omega) rfl (by omega)
  refine z_lsub [(0, .ref (g 0)), (1, .int (z_I 0)), (2, .int (z_I 0)), (3, .int (z_I (-1))), (4, .int (z_I 0)), (5, .int (z_I 0))] [5, 4, 3, 2, 1, 0] rfl ?_
  exact loop12 33 0 0 0 (-1) (by first | assumption | omega) (by first | assumption | omega) rfl rfl (Or.inl ⟨rfl, rfl⟩) (by omega)
