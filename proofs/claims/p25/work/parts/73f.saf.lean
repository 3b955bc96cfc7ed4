theorem zd_L_isSafe : yL_isSafe.cls ≠ "java/lang/invoke/MethodHandle" ∧ yL_isSafe.cls ≠ "java/lang/invoke/VarHandle" ∧ (parseMethodDescriptor yL_isSafe.desc).map (fun d => d.parameters.length) = some 1 := by decide +kernel
set_option maxHeartbeats 4000000 in
set_option maxRecDepth 100000 in
theorem c_L_isSafe (l : Launch) (D : va_G) (cI cZ cO : ClassId) (g : Nat → Nat) (ct : z_Ct) (J : p_J) (hx : x_ok ct) (ht : ct.1.1 ≤ 9999) : z_Mi l yL_isSafe wsL_isSafe 4 90 D (z_T cI cZ cO) [.ref (g 0)] ((pw cI cZ cO g ct J ++ []).flatten) ((pw cI cZ cO g ct J ++ []).flatten) 1 := by
  refine z_Mi_of (cc := cL_isSafe) (nL := 4) (ret := (some .boolean)) (by decide +kernel) rfl (Nat.le_of_ble_eq_true rfl) ?_
  intro p e s m args below meth c A Q C hQ
  change z_V p l e { frames := 4, cells := 0, slots := 0, locals := 90 } s m args below meth c D A 4 0 0 Q ((pw cI cZ cO g ct J ++ []).flatten) 0 [(0, .ref (g 0))] []
  obtain ⟨t0, st0, p20, sh0, ow0, ck0, rn0, lw0, ho0, lc0, ld0, rl0, sn0, lct, owz⟩ := x_bas hx
  have hdl := hx.1.1.2.2.2.1
  have sfr := x_sf_rng st0 hdl
  refine z_aload_n C 0 dL_isSafe_0 rfl ?_
  by_cases hs : z_sf ct.1.2.1 ct.1.2.2.2.2.1 ≤ 50
  · skip
    refine pq_safeGap (F := z_sf ct.1.2.1 ct.1.2.2.2.2.1) C gL_isSafe_X6_safeGap dL_isSafe_1 ⟨Nat.le_of_ble_eq_true rfl, Nat.le_of_ble_eq_true rfl⟩ ⟨Nat.le_of_ble_eq_true rfl, Nat.le_of_ble_eq_true rfl⟩ hx.1 ht   (pa_safeGapY hs) (Nat.le_of_ble_eq_true rfl) ?_
    refine z_istore_n C [(1, .int (z_I (z_sf ct.1.2.1 ct.1.2.2.2.2.1))), (0, .ref (g 0))] dL_isSafe_4 (by decide) rfl ?_
    refine z_bipush C 51 dL_isSafe_5 (by decide) ?_
    refine z_istore_n C [(2, .int (z_I 51)), (1, .int (z_I (z_sf ct.1.2.1 ct.1.2.2.2.2.1))), (0, .ref (g 0))] dL_isSafe_7 (by decide) rfl ?_
    refine z_bipush C 50 dL_isSafe_8 (by decide) ?_
    refine z_istore_n C [(3, .int (z_I 50)), (2, .int (z_I 51)), (1, .int (z_I (z_sf ct.1.2.1 ct.1.2.2.2.2.1))), (0, .ref (g 0))] dL_isSafe_10 (by decide) rfl ?_
    have loop11 : ∀ (zn : Nat) (q_9 : Int) (du_9 : Int), 0 ≤ q_9 → q_9 ≤ 50 → (du_9 = q_9 + 1 ∧ z_sf ct.1.2.1 ct.1.2.2.2.2.1 ≤ q_9 + 1) ∨ (du_9 = q_9 + 2 ∧ du_9 = z_sf ct.1.2.1 ct.1.2.2.2.2.1) → q_9 < (zn : Int) → z_V p l e { frames := 4, cells := 0, slots := 0, locals := 90 } s m args below meth c D A 4 0 0 Q ((pw cI cZ cO g ct J ++ []).flatten) 11 [(3, .int (z_I q_9)), (2, .int (z_I du_9)), (1, .int (z_I (z_sf ct.1.2.1 ct.1.2.2.2.2.1))), (0, .ref (g 0))] [] := by
      intro zn
      induction zn with
      | zero => intro q_9 du_9 q0 q1 hd hm; exact absurd hm (by omega)
      | succ zn11 ih11 =>
        intro q_9 du_9 q0 q1 hd hm11
        refine z_iload_n C 0 dL_isSafe_11 rfl ?_
        refine z_if_le C 42 dL_isSafe_12 (by decide) ⟨by omega, by omega⟩ (fun hc1 => ?_) (fun hc1 => ?_)
        · skip
          refine z_iload_n C 2 dL_isSafe_42 rfl ?_
          refine z_iload_n C 1 dL_isSafe_43 rfl ?_
          refine z_bipush C 51 dL_isSafe_44 (by decide) ?_
          refine z_icmp_ne C 54 dL_isSafe_46 (by decide) ⟨by omega, by omega⟩ ⟨by omega, by omega⟩ (fun hc2 => ?_) (fun hc2 => ?_)
          · skip
            refine z_iload_n C 1 dL_isSafe_54 rfl ?_
            refine z_icmp_ne C 62 dL_isSafe_55 (by decide) ⟨by omega, by omega⟩ ⟨by omega, by omega⟩ (fun hc3 => absurd hc3 (by omega)) (fun hc3 => ?_)
            refine z_iconst C 1 dL_isSafe_58 ?_
            refine z_goto C 63 dL_isSafe_59 (by decide) ?_
            exact z_zret C hQ rfl rfl (Or.inr rfl) dL_isSafe_63
          · skip
            refine z_bipush C (-6) dL_isSafe_49 (by decide) ?_
            refine z_goto C 55 dL_isSafe_51 (by decide) ?_
            refine z_icmp_ne C 62 dL_isSafe_55 (by decide) ⟨by omega, by omega⟩ ⟨by omega, by omega⟩ (fun hc4 => absurd hc4 (by omega)) (fun hc4 => ?_)
            refine z_iconst C 1 dL_isSafe_58 ?_
            refine z_goto C 63 dL_isSafe_59 (by decide) ?_
            exact z_zret C hQ rfl rfl (Or.inr rfl) dL_isSafe_63
        · skip
          have wr := z_wc_rng (g := q_9) (dl := ct.1.2.2.2.2.1) st0
          have wi := x_sf_w st0 hdl (g := q_9) (by omega)
          refine z_iload_n C 1 dL_isSafe_15 rfl ?_
          refine z_iload_n C 0 dL_isSafe_16 rfl ?_
          refine z_iconst C 1 dL_isSafe_17 ?_
          refine z_iadd C dL_isSafe_18 ?_
          refine z_icmp_ne C 42 dL_isSafe_19 (by decide) ⟨by omega, by omega⟩ ⟨by omega, by omega⟩ (fun hc5 => ?_) (fun hc5 => ?_)
          · skip
            refine z_iload_n C 2 dL_isSafe_42 rfl ?_
            refine z_iload_n C 1 dL_isSafe_43 rfl ?_
            refine z_bipush C 51 dL_isSafe_44 (by decide) ?_
            refine z_icmp_ne C 54 dL_isSafe_46 (by decide) ⟨by omega, by omega⟩ ⟨by omega, by omega⟩ (fun hc6 => ?_) (fun hc6 => ?_)
            · skip
              refine z_iload_n C 1 dL_isSafe_54 rfl ?_
              refine z_icmp_ne C 62 dL_isSafe_55 (by decide) ⟨by omega, by omega⟩ ⟨by omega, by omega⟩ (fun hc7 => absurd hc7 (by omega)) (fun hc7 => ?_)
              refine z_iconst C 1 dL_isSafe_58 ?_
              refine z_goto C 63 dL_isSafe_59 (by decide) ?_
              exact z_zret C hQ rfl rfl (Or.inr rfl) dL_isSafe_63
            · skip
              refine z_bipush C (-6) dL_isSafe_49 (by decide) ?_
              refine z_goto C 55 dL_isSafe_51 (by decide) ?_
              refine z_icmp_ne C 62 dL_isSafe_55 (by decide) ⟨by omega, by omega⟩ ⟨by omega, by omega⟩ (fun hc8 => absurd hc8 (by omega)) (fun hc8 => ?_)
              refine z_iconst C 1 dL_isSafe_58 ?_
              refine z_goto C 63 dL_isSafe_59 (by decide) ?_
              exact z_zret C hQ rfl rfl (Or.inr rfl) dL_isSafe_63
          · skip
            refine z_aload_n C 3 dL_isSafe_22 rfl ?_
            refine z_iload_n C 0 dL_isSafe_23 rfl ?_
            refine pq_wrong (F := z_wc ct.1.2.1 ct.1.2.2.2.2.1 q_9) C gL_isSafe_X6_wrong dL_isSafe_24 ⟨Nat.le_of_ble_eq_true rfl, Nat.le_of_ble_eq_true rfl⟩ ⟨Nat.le_of_ble_eq_true rfl, Nat.le_of_ble_eq_true rfl⟩ hx.1 ht q_9 ⟨by omega, by omega⟩ (pa_wrong (by omega)) (Nat.le_of_ble_eq_true rfl) ?_
            refine z_if_ne C 34 dL_isSafe_27 (by decide) ⟨by omega, by omega⟩ (fun hc9 => ?_) (fun hc9 => ?_)
            · skip
              refine z_iload_n C 1 dL_isSafe_34 rfl ?_
              refine z_istore_n C [(2, .int (z_I du_9)), (3, .int (z_I q_9)), (1, .int (z_I (z_sf ct.1.2.1 ct.1.2.2.2.2.1))), (0, .ref (g 0))] dL_isSafe_35 (by decide) rfl ?_
              refine z_iinc C 1 [(3, .int (z_I (q_9 + (-1)))), (2, .int (z_I du_9)), (1, .int (z_I (z_sf ct.1.2.1 ct.1.2.2.2.2.1))), (0, .ref (g 0))] dL_isSafe_36 rfl (by decide) rfl ?_
              refine z_goto C 11 dL_isSafe_39 (by decide) ?_
              exact ih11 (q_9 + (-1)) du_9 (by first | assumption | omega) (by first | assumption | omega) (by first | assumption | omega) (by omega)
            · skip
              refine z_iload_n C 0 dL_isSafe_30 rfl ?_
              refine z_goto C 35 dL_isSafe_31 (by decide) ?_
              refine z_istore_n C [(2, .int (z_I q_9)), (3, .int (z_I q_9)), (1, .int (z_I (z_sf ct.1.2.1 ct.1.2.2.2.2.1))), (0, .ref (g 0))] dL_isSafe_35 (by decide) rfl ?_
              refine z_iinc C 1 [(3, .int (z_I (q_9 + (-1)))), (2, .int (z_I q_9)), (1, .int (z_I (z_sf ct.1.2.1 ct.1.2.2.2.2.1))), (0, .ref (g 0))] dL_isSafe_36 rfl (by decide) rfl ?_
              refine z_goto C 11 dL_isSafe_39 (by decide) ?_
              exact ih11 (q_9 + (-1)) q_9 (by first | assumption | omega) (by first | assumption | omega) (by first | assumption | omega) (by omega)
    exact loop11 51 50 51 (by first | assumption | omega) (by first | assumption | omega) (by first | assumption | omega) (by omega)
  · skip
    refine pq_safeGap (F := (-6)) C gL_isSafe_X6_safeGap dL_isSafe_1 ⟨Nat.le_of_ble_eq_true rfl, Nat.le_of_ble_eq_true rfl⟩ ⟨Nat.le_of_ble_eq_true rfl, Nat.le_of_ble_eq_true rfl⟩ hx.1 ht   (pa_safeGapN hs) (Nat.le_of_ble_eq_true rfl) ?_
    refine z_istore_n C [(1, .int (z_I (-6))), (0, .ref (g 0))] dL_isSafe_4 (by decide) rfl ?_
    refine z_bipush C 51 dL_isSafe_5 (by decide) ?_
    refine z_istore_n C [(2, .int (z_I 51)), (1, .int (z_I (-6))), (0, .ref (g 0))] dL_isSafe_7 (by decide) rfl ?_
    refine z_bipush C 50 dL_isSafe_8 (by decide) ?_
    refine z_istore_n C [(3, .int (z_I 50)), (2, .int (z_I 51)), (1, .int (z_I (-6))), (0, .ref (g 0))] dL_isSafe_10 (by decide) rfl ?_
    have loop11 : ∀ (zn : Nat) (q_9 : Int) (du_9 : Int), 0 ≤ q_9 → q_9 ≤ 50 → (du_9 = q_9 + 1 ∧ z_sf ct.1.2.1 ct.1.2.2.2.2.1 ≤ q_9 + 1) ∨ (du_9 = q_9 + 2 ∧ du_9 = z_sf ct.1.2.1 ct.1.2.2.2.2.1) → q_9 < (zn : Int) → z_V p l e { frames := 4, cells := 0, slots := 0, locals := 90 } s m args below meth c D A 4 0 0 Q ((pw cI cZ cO g ct J ++ []).flatten) 11 [(3, .int (z_I q_9)), (2, .int (z_I du_9)), (1, .int (z_I (-6))), (0, .ref (g 0))] [] := by
      intro zn
      induction zn with
      | zero => intro q_9 du_9 q0 q1 hd hm; exact absurd hm (by omega)
      | succ zn11 ih11 =>
        intro q_9 du_9 q0 q1 hd hm11
        refine z_iload_n C 0 dL_isSafe_11 rfl ?_
        refine z_if_le C 42 dL_isSafe_12 (by decide) ⟨by omega, by omega⟩ (fun hc10 => ?_) (fun hc10 => ?_)
        · skip
          refine z_iload_n C 2 dL_isSafe_42 rfl ?_
          refine z_iload_n C 1 dL_isSafe_43 rfl ?_
          refine z_bipush C 51 dL_isSafe_44 (by decide) ?_
          refine z_icmp_ne C 54 dL_isSafe_46 (by decide) ⟨by omega, by omega⟩ ⟨by omega, by omega⟩ (fun hc11 => ?_) (fun hc11 => ?_)
          · skip
            refine z_iload_n C 1 dL_isSafe_54 rfl ?_
            refine z_icmp_ne C 62 dL_isSafe_55 (by decide) ⟨by omega, by omega⟩ ⟨by omega, by omega⟩ (fun hc12 => absurd hc12 (by omega)) (fun hc12 => ?_)
            refine z_iconst C 1 dL_isSafe_58 ?_
            refine z_goto C 63 dL_isSafe_59 (by decide) ?_
            exact z_zret C hQ rfl rfl (Or.inr rfl) dL_isSafe_63
          · skip
            refine z_bipush C (-6) dL_isSafe_49 (by decide) ?_
            refine z_goto C 55 dL_isSafe_51 (by decide) ?_
            refine z_icmp_ne C 62 dL_isSafe_55 (by decide) ⟨by omega, by omega⟩ ⟨by omega, by omega⟩ (fun hc13 => absurd hc13 (by omega)) (fun hc13 => ?_)
            refine z_iconst C 1 dL_isSafe_58 ?_
            refine z_goto C 63 dL_isSafe_59 (by decide) ?_
            exact z_zret C hQ rfl rfl (Or.inr rfl) dL_isSafe_63
        · skip
          have wr := z_wc_rng (g := q_9) (dl := ct.1.2.2.2.2.1) st0
          have wi := x_sf_w st0 hdl (g := q_9) (by omega)
          refine z_iload_n C 1 dL_isSafe_15 rfl ?_
          refine z_iload_n C 0 dL_isSafe_16 rfl ?_
          refine z_iconst C 1 dL_isSafe_17 ?_
          refine z_iadd C dL_isSafe_18 ?_
          refine z_icmp_ne C 42 dL_isSafe_19 (by decide) ⟨by omega, by omega⟩ ⟨by omega, by omega⟩ (fun hc14 => ?_) (fun hc14 => ?_)
          · skip
            refine z_iload_n C 2 dL_isSafe_42 rfl ?_
            refine z_iload_n C 1 dL_isSafe_43 rfl ?_
            refine z_bipush C 51 dL_isSafe_44 (by decide) ?_
            refine z_icmp_ne C 54 dL_isSafe_46 (by decide) ⟨by omega, by omega⟩ ⟨by omega, by omega⟩ (fun hc15 => ?_) (fun hc15 => ?_)
            · skip
              refine z_iload_n C 1 dL_isSafe_54 rfl ?_
              refine z_icmp_ne C 62 dL_isSafe_55 (by decide) ⟨by omega, by omega⟩ ⟨by omega, by omega⟩ (fun hc16 => absurd hc16 (by omega)) (fun hc16 => ?_)
              refine z_iconst C 1 dL_isSafe_58 ?_
              refine z_goto C 63 dL_isSafe_59 (by decide) ?_
              exact z_zret C hQ rfl rfl (Or.inr rfl) dL_isSafe_63
            · skip
              refine z_bipush C (-6) dL_isSafe_49 (by decide) ?_
              refine z_goto C 55 dL_isSafe_51 (by decide) ?_
              refine z_icmp_ne C 62 dL_isSafe_55 (by decide) ⟨by omega, by omega⟩ ⟨by omega, by omega⟩ (fun hc17 => absurd hc17 (by omega)) (fun hc17 => ?_)
              refine z_iconst C 1 dL_isSafe_58 ?_
              refine z_goto C 63 dL_isSafe_59 (by decide) ?_
              exact z_zret C hQ rfl rfl (Or.inr rfl) dL_isSafe_63
          · skip
            refine z_aload_n C 3 dL_isSafe_22 rfl ?_
            refine z_iload_n C 0 dL_isSafe_23 rfl ?_
            refine pq_wrong (F := z_wc ct.1.2.1 ct.1.2.2.2.2.1 q_9) C gL_isSafe_X6_wrong dL_isSafe_24 ⟨Nat.le_of_ble_eq_true rfl, Nat.le_of_ble_eq_true rfl⟩ ⟨Nat.le_of_ble_eq_true rfl, Nat.le_of_ble_eq_true rfl⟩ hx.1 ht q_9 ⟨by omega, by omega⟩ (pa_wrong (by omega)) (Nat.le_of_ble_eq_true rfl) ?_
            refine z_if_ne C 34 dL_isSafe_27 (by decide) ⟨by omega, by omega⟩ (fun hc18 => ?_) (fun hc18 => ?_)
            · skip
              refine z_iload_n C 1 dL_isSafe_34 rfl ?_
              refine z_istore_n C [(2, .int (z_I du_9)), (3, .int (z_I q_9)), (1, .int (z_I (-6))), (0, .ref (g 0))] dL_isSafe_35 (by decide) rfl ?_
              refine z_iinc C 1 [(3, .int (z_I (q_9 + (-1)))), (2, .int (z_I du_9)), (1, .int (z_I (-6))), (0, .ref (g 0))] dL_isSafe_36 rfl (by decide) rfl ?_
              refine z_goto C 11 dL_isSafe_39 (by decide) ?_
              exact ih11 (q_9 + (-1)) du_9 (by first | assumption | omega) (by first | assumption | omega) (by first | assumption | omega) (by omega)
            · skip
              refine z_iload_n C 0 dL_isSafe_30 rfl ?_
              refine z_goto C 35 dL_isSafe_31 (by decide) ?_
              refine z_istore_n C [(2, .int (z_I q_9)), (3, .int (z_I q_9)), (1, .int (z_I (-6))), (0, .ref (g 0))] dL_isSafe_35 (by decide) rfl ?_
              refine z_iinc C 1 [(3, .int (z_I (q_9 + (-1)))), (2, .int (z_I q_9)), (1, .int (z_I (-6))), (0, .ref (g 0))] dL_isSafe_36 rfl (by decide) rfl ?_
              refine z_goto C 11 dL_isSafe_39 (by decide) ?_
              exact ih11 (q_9 + (-1)) q_9 (by first | assumption | omega) (by first | assumption | omega) (by first | assumption | omega) (by omega)
    exact loop11 51 50 51 (by first | assumption | omega) (by first | assumption | omega) (by first | assumption | omega) (by omega)
