set_option maxHeartbeats 8000000 in
set_option maxRecDepth 100000 in
theorem lw_body {p : Program} {l : Launch} {e : Env} {s : State} {m : MethodId} {below : List Frame} {meth : Method} {c : Code} {D : va_G} {cI cZ cO : ClassId} {b L : Nat} {xs : Nat → Int32} (C : z_C p s m #[Value.ref b] meth c D (z_T cI cZ cO) (fun q : Nat => s.heap.size ≤ q) cL_law 4 RL wsL_law ret) (hN : z_NW s) (hX : va_X b L xs s s.heap) (hbl : b < s.heap.size) (hL : L ≤ 260) : z_V p l e room_1 s m #[Value.ref b] below meth c D (fun q : Nat => s.heap.size ≤ q) 4 0 0 (lw_Z below #[Value.ref b] s) [] 0 [(0, .ref b)] [] := by
  refine z_new (ci := 6) (fs := [.null, .null, .null, .null, .null, .null]) C (fun hX => [(hX, .inr (6, [.null, .null, .null, .null, .null, .null]))]) inlX6 tyX6_ok zl_L_law_c9 zl_L_law_iX6 zl_L_law_nX6 rfl (fun j hj => by rcases (show j = 0 ∨ j = 1 ∨ j = 2 ∨ j = 3 ∨ j = 4 ∨ j = 5 by omega) with rfl | rfl | rfl | rfl | rfl | rfl <;> rfl) ⟨Nat.le_of_ble_eq_true rfl, Nat.le_of_ble_eq_true rfl⟩ (fun hX => rfl) dL_law_0 (fun hX => ?_)
  refine z_dup C dL_law_3 rfl ?_
  refine z_callN C hN ([]) (c_X6_init l D cI cZ cO hX) gL_law_X6_init rfl zl_L_law_l34 zl_L_law_mX6 zl_L_law_nX6 rfl zd_X6_init (by decide) rfl (Nat.le_of_ble_eq_true rfl) ⟨Nat.le_of_ble_eq_true rfl, Nat.le_of_ble_eq_true rfl⟩ dL_law_4 (fun w9 hw9 => ?_)
  obtain ⟨g2, J2, hg2, hJ2, hJ20, rfl⟩ := p_new hw9
  subst hg2
  refine z_ws ((pw cI cZ cO g2 z_ct0 J2 ++ []).flatten) (p_app0 _) ?_
  refine z_astore_n C [(1, .ref (g2 0)), (0, .ref b)] dL_law_7 (by decide) rfl ?_
  refine z_aload_n C 0 dL_law_8 rfl ?_
  refine z_bipush C 10 dL_law_9 (by decide) ?_
  refine pq_count (F := 4) C gL_law_X6_count dL_law_11 ⟨Nat.le_of_ble_eq_true rfl, Nat.le_of_ble_eq_true rfl⟩ ⟨by show _ ≤ 600000; omega, by show _ ≤ 7302250; omega⟩ x_ok_ct0.1 (by decide) 10 ⟨by omega, by omega⟩ (pa_count10 (kp := J2.1)) (Nat.le_of_ble_eq_true rfl) ?_
  refine z_iconst C 4 dL_law_14 ?_
  refine z_icmp_ne C 54 dL_law_15 (by decide) ⟨by omega, by omega⟩ ⟨by omega, by omega⟩ (fun hc1 => absurd hc1 (by omega)) (fun hc1 => ?_)
  refine z_aload_n C 0 dL_law_18 rfl ?_
  refine z_bipush C 11 dL_law_19 (by decide) ?_
  refine pq_count (F := 2) C gL_law_X6_count dL_law_21 ⟨Nat.le_of_ble_eq_true rfl, Nat.le_of_ble_eq_true rfl⟩ ⟨by show _ ≤ 600000; omega, by show _ ≤ 7302250; omega⟩ x_ok_ct0.1 (by decide) 11 ⟨by omega, by omega⟩ (pa_count11 (kp := J2.1)) (Nat.le_of_ble_eq_true rfl) ?_
  refine z_iconst C 2 dL_law_24 ?_
  refine z_icmp_ne C 54 dL_law_25 (by decide) ⟨by omega, by omega⟩ ⟨by omega, by omega⟩ (fun hc2 => absurd hc2 (by omega)) (fun hc2 => ?_)
  refine z_aload_n C 0 dL_law_28 rfl ?_
  refine pq_undo (F := (-5)) C gL_law_X6_undo dL_law_29 ⟨Nat.le_of_ble_eq_true rfl, Nat.le_of_ble_eq_true rfl⟩ ⟨Nat.le_of_ble_eq_true rfl, Nat.le_of_ble_eq_true rfl⟩ x_ok_ct0.1 (by decide) hJ2 (if_pos hJ20) (Nat.le_of_ble_eq_true rfl) ?_
  rw [p_undo0 hJ20]
  refine z_bipush C (-5) dL_law_32 (by decide) ?_
  refine z_icmp_ne C 54 dL_law_34 (by decide) ⟨by omega, by omega⟩ ⟨by omega, by omega⟩ (fun hc3 => absurd hc3 (by omega)) (fun hc3 => ?_)
  refine z_aload_n C 0 dL_law_37 rfl ?_
  refine z_iconst C 1 dL_law_38 ?_
  refine pq_restore (F := (-5)) C gL_law_X6_restore dL_law_39 ⟨Nat.le_of_ble_eq_true rfl, Nat.le_of_ble_eq_true rfl⟩ ⟨Nat.le_of_ble_eq_true rfl, Nat.le_of_ble_eq_true rfl⟩ x_ok_ct0.1 (by decide) hJ2 1 ⟨by omega, by omega⟩ rfl (Nat.le_of_ble_eq_true rfl) ?_
  rw [p_rest0]
  refine z_bipush C (-5) dL_law_42 (by decide) ?_
  refine z_icmp_ne C 54 dL_law_44 (by decide) ⟨by omega, by omega⟩ ⟨by omega, by omega⟩ (fun hc4 => absurd hc4 (by omega)) (fun hc4 => ?_)
  refine z_aload_n C 0 dL_law_47 rfl ?_
  refine z_callLS C [.ref (g2 0)] [] (c_L_isCounter l D cI cZ cO g2 z_ct0 J2 x_ok_ct0 (by decide) hJ2) gL_law_L_isCounter rfl zd_L_isCounter rfl ⟨Nat.le_of_ble_eq_true rfl, Nat.le_of_ble_eq_true rfl⟩ rfl (Nat.le_of_ble_eq_true rfl) ⟨by show _ ≤ 600000; omega, by show _ ≤ 7302250; omega⟩ dL_law_48 (fun jj48 ri hp => ?_)
  obtain ⟨rfl, hjj48⟩ := hp
  refine z_if_ne C 56 dL_law_51 (by decide) ⟨by omega, by omega⟩ (fun hc5 => ?_) (fun hc5 => absurd hc5 (by omega))
  refine z_iconst C 0 dL_law_56 ?_
  refine z_istore_n C [(2, .int (z_I 0)), (1, .ref (g2 0)), (0, .ref b)] dL_law_57 (by decide) rfl ?_
  have loop58 : ∀ (zn : Nat) (ei_9 : Int) (ct : z_Ct) (J : p_J) (kc_9 : Nat) (ks_9 : Nat), 0 ≤ ei_9 → ei_9 ≤ 110 → x_ok ct → ct.1.1 ≤ 70 * ei_9 → p_ok J → (kc_9 : Int) ≤ 200 * (ei_9 + 1) → (ks_9 : Int) ≤ 8000 * (ei_9 + 1) → 110 - ei_9 < (zn : Int) → z_V p l e room_1 s m #[Value.ref b] below meth c D (fun q : Nat => s.heap.size ≤ q) 4 kc_9 ks_9 (lw_Z below #[Value.ref b] s) ((pw cI cZ cO g2 ct J ++ []).flatten) 58 [(2, .int (z_I ei_9)), (0, .ref b), (1, .ref (g2 0))] [] := by
    intro zn
    induction zn with
    | zero => intro ei_9 ct J kc_9 ks_9 e0 e1 hx ht hJ hkc hks hm; exact absurd hm (by omega)
    | succ zn58 ih58 =>
      intro ei_9 ct J kc_9 ks_9 e0 e1 hx ht hJ hkc hks hm58
      have htt : ct.1.1 ≤ 9999 := by omega
      have hst := hx.1.1.2.1
      refine z_iload_n C 0 dL_law_58 rfl ?_
      refine z_bipush C 110 dL_law_59 (by decide) ?_
      refine z_icmp_ge C 164 dL_law_61 (by decide) ⟨by omega, by omega⟩ ⟨by omega, by omega⟩ (fun hc6 => ?_) (fun hc6 => ?_)
      · skip
        refine z_aload_n C 2 dL_law_164 rfl ?_
        refine z_iconst C 0 dL_law_165 ?_
        refine z_bipush C 6 dL_law_166 (by decide) ?_
        refine pq_set (F := (-2)) C gL_law_X6_set dL_law_168 ⟨Nat.le_of_ble_eq_true rfl, Nat.le_of_ble_eq_true rfl⟩ ⟨by show _ ≤ 600000; omega, by show _ ≤ 7302250; omega⟩ hx.1 htt hJ 0 6 ⟨by omega, by omega⟩ ⟨by omega, by omega⟩ rfl (Nat.le_of_ble_eq_true rfl) ?_
        obtain ⟨js7, ejs7, hjs7⟩ : ∃ j : p_J, p_st J ct (z_chg ct 0 6).2 = j ∧ p_ok j := ⟨_, rfl, p_st_ok hJ hx.1 htt _⟩
        rw [ejs7]
        rw [(x_chgA ct).1]
        refine z_bipush C (-2) dL_law_171 (by decide) ?_
        refine z_icmp_ne C 245 dL_law_173 (by decide) ⟨by omega, by omega⟩ ⟨by omega, by omega⟩ (fun hc8 => absurd hc8 (by omega)) (fun hc8 => ?_)
        refine z_aload_n C 2 dL_law_176 rfl ?_
        refine z_iconst C 2 dL_law_177 ?_
        refine z_iconst C 1 dL_law_178 ?_
        refine pq_set (F := (-2)) C gL_law_X6_set dL_law_179 ⟨Nat.le_of_ble_eq_true rfl, Nat.le_of_ble_eq_true rfl⟩ ⟨by show _ ≤ 600000; omega, by show _ ≤ 7302250; omega⟩ hx.1 htt hjs7 2 1 ⟨by omega, by omega⟩ ⟨by omega, by omega⟩ rfl (Nat.le_of_ble_eq_true rfl) ?_
        obtain ⟨js9, ejs9, hjs9⟩ : ∃ j : p_J, p_st js7 ct (z_chg ct 2 1).2 = j ∧ p_ok j := ⟨_, rfl, p_st_ok hjs7 hx.1 htt _⟩
        rw [ejs9]
        rw [(x_chgA ct).2.1]
        refine z_bipush C (-2) dL_law_182 (by decide) ?_
        refine z_icmp_ne C 245 dL_law_184 (by decide) ⟨by omega, by omega⟩ ⟨by omega, by omega⟩ (fun hc10 => absurd hc10 (by omega)) (fun hc10 => ?_)
        refine z_aload_n C 2 dL_law_187 rfl ?_
        refine z_iconst C 0 dL_law_188 ?_
        refine z_bipush C 21 dL_law_189 (by decide) ?_
        refine pq_delay (F := (-2)) C gL_law_X6_delay dL_law_191 ⟨Nat.le_of_ble_eq_true rfl, Nat.le_of_ble_eq_true rfl⟩ ⟨by show _ ≤ 600000; omega, by show _ ≤ 7302250; omega⟩ hx.1 htt hjs9 0 21 ⟨by omega, by omega⟩ ⟨by omega, by omega⟩ (x_cdA hst.1).2 (Nat.le_of_ble_eq_true rfl) ?_
        obtain ⟨js11, ejs11, hjs11⟩ : ∃ j : p_J, p_st js9 ct (z_cd ct 0 21).2 = j ∧ p_ok j := ⟨_, rfl, p_st_ok hjs9 hx.1 htt _⟩
        rw [ejs11]
        rw [(x_cdA hst.1).1]
        refine z_bipush C (-2) dL_law_194 (by decide) ?_
        refine z_icmp_ne C 245 dL_law_196 (by decide) ⟨by omega, by omega⟩ ⟨by omega, by omega⟩ (fun hc12 => absurd hc12 (by omega)) (fun hc12 => ?_)
        refine z_aload_n C 2 dL_law_199 rfl ?_
        refine z_iconst C 0 dL_law_200 ?_
        refine pq_pass (F := (-2)) C gL_law_X6_pass dL_law_201 ⟨Nat.le_of_ble_eq_true rfl, Nat.le_of_ble_eq_true rfl⟩ ⟨by show _ ≤ 600000; omega, by show _ ≤ 7302250; omega⟩ hx.1 htt hjs11 0 ⟨by omega, by omega⟩ rfl (Nat.le_of_ble_eq_true rfl) ?_
        obtain ⟨js13, ejs13, hjs13⟩ : ∃ j : p_J, p_st js11 ct (z_lp ct 0).2 = j ∧ p_ok j := ⟨_, rfl, p_st_ok hjs11 hx.1 htt _⟩
        rw [ejs13]
        rw [(x_chgA ct).2.2]
        refine z_bipush C (-2) dL_law_204 (by decide) ?_
        refine z_icmp_ne C 245 dL_law_206 (by decide) ⟨by omega, by omega⟩ ⟨by omega, by omega⟩ (fun hc14 => absurd hc14 (by omega)) (fun hc14 => ?_)
        refine z_aload_n C 2 dL_law_209 rfl ?_
        refine z_bipush C 51 dL_law_210 (by decide) ?_
        refine pq_wrong (F := (-2)) C gL_law_X6_wrong dL_law_212 ⟨Nat.le_of_ble_eq_true rfl, Nat.le_of_ble_eq_true rfl⟩ ⟨by show _ ≤ 600000; omega, by show _ ≤ 7302250; omega⟩ hx.1 htt 51 ⟨by omega, by omega⟩ (pa_wrongN (by omega)) (Nat.le_of_ble_eq_true rfl) ?_
        refine z_bipush C (-2) dL_law_215 (by decide) ?_
        refine z_icmp_ne C 245 dL_law_217 (by decide) ⟨by omega, by omega⟩ ⟨by omega, by omega⟩ (fun hc15 => absurd hc15 (by omega)) (fun hc15 => ?_)
        refine z_aload_n C 2 dL_law_220 rfl ?_
        refine z_iconst C 2 dL_law_221 ?_
        refine pq_toBlame (F := (-2)) C gL_law_X6_toBlame dL_law_222 ⟨Nat.le_of_ble_eq_true rfl, Nat.le_of_ble_eq_true rfl⟩ ⟨by show _ ≤ 600000; omega, by show _ ≤ 7302250; omega⟩ hx.1 htt 2 ⟨by omega, by omega⟩ (pa_toBlame2 (ct := ct)) (Nat.le_of_ble_eq_true rfl) ?_
        refine z_bipush C (-2) dL_law_225 (by decide) ?_
        refine z_icmp_ne C 245 dL_law_227 (by decide) ⟨by omega, by omega⟩ ⟨by omega, by omega⟩ (fun hc16 => absurd hc16 (by omega)) (fun hc16 => ?_)
        refine z_aload_n C 2 dL_law_230 rfl ?_
        refine z_bipush C 14 dL_law_231 (by decide) ?_
        refine pq_count (F := (-2)) C gL_law_X6_count dL_law_233 ⟨Nat.le_of_ble_eq_true rfl, Nat.le_of_ble_eq_true rfl⟩ ⟨by show _ ≤ 600000; omega, by show _ ≤ 7302250; omega⟩ hx.1 htt 14 ⟨by omega, by omega⟩ (pa_count14 (ct := ct) (kp := js13.1)) (Nat.le_of_ble_eq_true rfl) ?_
        refine z_bipush C (-2) dL_law_236 (by decide) ?_
        refine z_icmp_ne C 245 dL_law_238 (by decide) ⟨by omega, by omega⟩ ⟨by omega, by omega⟩ (fun hc17 => absurd hc17 (by omega)) (fun hc17 => ?_)
        refine z_iconst C 1 dL_law_241 ?_
        refine z_goto C 246 dL_law_242 (by decide) ?_
        exact z_lret C ⟨by show _ ≤ 600000; omega, by show _ ≤ 7302250; omega⟩ dL_law_246
      · skip
        have lo50 : ∀ v : Int, 0 ≤ x_lo (x_sr v 3) 50 ∧ x_lo (x_sr v 3) 50 < 50 := fun v => x_lo_rng _ (by decide)
        refine z_aload_n C 1 dL_law_64 rfl ?_
        refine z_iload_n C 0 dL_law_65 rfl ?_
        refine z_callX C hX hbl (Nat.not_le.mpr hbl) [.ref b, .int (z_I ei_9)] [] (c_L_cell l D (z_T cI cZ cO) b L xs ei_9 hL (by omega)) gL_law_L_cell rfl zd_L_cell rfl ⟨Nat.le_of_ble_eq_true rfl, Nat.le_of_ble_eq_true rfl⟩ rfl (Nat.le_of_ble_eq_true rfl) ⟨by show _ ≤ 600000; omega, by show _ ≤ 7302250; omega⟩ dL_law_66 ?_
        obtain ⟨vv, hvv⟩ : ∃ v : Int, (if (L : Int) ≤ ei_9 then 7919 * (ei_9 + 3) * (ei_9 + 11) else lw_x xs ei_9) = v := ⟨_, rfl⟩
        rw [hvv]
        have lo5 := lo50 vv
        refine z_istore_n C [(3, .int (z_I vv)), (2, .int (z_I ei_9)), (0, .ref b), (1, .ref (g2 0))] dL_law_69 (by decide) rfl ?_
        refine z_aload_n C 3 dL_law_70 rfl ?_
        refine z_iload_n C 0 dL_law_71 rfl ?_
        refine z_callLS C [.ref (g2 0), .int (z_I vv)] [] (c_L_does l D cI cZ cO g2 ct J vv hx (by omega) hJ) gL_law_L_does rfl zd_L_does rfl ⟨Nat.le_of_ble_eq_true rfl, Nat.le_of_ble_eq_true rfl⟩ rfl (Nat.le_of_ble_eq_true rfl) ⟨by show _ ≤ 600000; omega, by show _ ≤ 7302250; omega⟩ dL_law_72 (fun jj72 ri hp => ?_)
        obtain ⟨cu, ju⟩ := jj72
        obtain ⟨rfl, hx1, tx1, hj1⟩ := hp
        have tx2 : cu.1.1 ≤ ct.1.1 + 70 := tx1
        have tx3 : cu.1.1 ≤ 9999 := by omega
        refine z_if_eq C 99 dL_law_75 (by decide) ⟨by omega, by omega⟩ (fun hc18 => absurd hc18 (by omega)) (fun hc18 => ?_)
        refine z_aload_n C 3 dL_law_78 rfl ?_
        refine z_callLS C [.ref (g2 0)] [] (c_L_isCounter l D cI cZ cO g2 cu ju hx1 tx3 hj1) gL_law_L_isCounter rfl zd_L_isCounter rfl ⟨Nat.le_of_ble_eq_true rfl, Nat.le_of_ble_eq_true rfl⟩ rfl (Nat.le_of_ble_eq_true rfl) ⟨by show _ ≤ 600000; omega, by show _ ≤ 7302250; omega⟩ dL_law_79 (fun jj79 ri hp => ?_)
        obtain ⟨rfl, hjj79⟩ := hp
        refine z_if_eq C 99 dL_law_82 (by decide) ⟨by omega, by omega⟩ (fun hc19 => absurd hc19 (by omega)) (fun hc19 => ?_)
        refine z_iload_n C 1 dL_law_85 rfl ?_
        refine z_iconst C 5 dL_law_86 ?_
        refine z_irem C dL_law_87 ⟨by omega, by omega⟩ ⟨by omega, by omega⟩ ?_
        refine z_iconst C 3 dL_law_88 ?_
        refine z_icmp_ne C 101 dL_law_89 (by decide) ⟨by omega, by omega⟩ ⟨by omega, by omega⟩ (fun hc20 => ?_) (fun hc20 => ?_)
        · skip
          refine z_iload_n C 1 dL_law_101 rfl ?_
          refine z_bipush C 11 dL_law_102 (by decide) ?_
          refine z_irem C dL_law_104 ⟨by omega, by omega⟩ ⟨by omega, by omega⟩ ?_
          refine z_bipush C 7 dL_law_105 (by decide) ?_
          refine z_icmp_ne C 127 dL_law_107 (by decide) ⟨by omega, by omega⟩ ⟨by omega, by omega⟩ (fun hc21 => ?_) (fun hc21 => ?_)
          · skip
            refine z_iload_n C 1 dL_law_127 rfl ?_
            refine z_bipush C 50 dL_law_128 (by decide) ?_
            refine z_irem C dL_law_130 ⟨by omega, by omega⟩ ⟨by omega, by omega⟩ ?_
            refine z_bipush C 31 dL_law_131 (by decide) ?_
            refine z_icmp_ne C 143 dL_law_133 (by decide) ⟨by omega, by omega⟩ ⟨by omega, by omega⟩ (fun hc22 => ?_) (fun hc22 => ?_)
            · skip
              refine z_iload_n C 1 dL_law_143 rfl ?_
              refine z_bipush C 90 dL_law_144 (by decide) ?_
              refine z_icmp_ne C 158 dL_law_146 (by decide) ⟨by omega, by omega⟩ ⟨by omega, by omega⟩ (fun hc23 => ?_) (fun hc23 => ?_)
              · skip
                refine z_iinc C 1 [(2, .int (z_I (ei_9 + 1))), (3, .int (z_I vv)), (0, .ref b), (1, .ref (g2 0))] dL_law_158 rfl (by decide) rfl ?_
                refine z_goto C 58 dL_law_161 (by decide) ?_
                refine z_lsub [(2, .int (z_I (ei_9 + 1))), (0, .ref b), (1, .ref (g2 0))] [0, 2, 3] rfl ?_
                exact ih58 (ei_9 + 1) cu jj79 kc_9 ks_9 (by first | assumption | omega) (by first | assumption | omega) hx1 (by omega) hjj79 (by omega) (by omega) (by omega)
              · skip
                refine z_aload_n C 3 dL_law_149 rfl ?_
                refine z_callLS C [.ref (g2 0)] [] (c_L_isBlamed l D cI cZ cO g2 cu jj79 hx1 tx3 hjj79) gL_law_L_isBlamed rfl zd_L_isBlamed rfl ⟨Nat.le_of_ble_eq_true rfl, Nat.le_of_ble_eq_true rfl⟩ rfl (Nat.le_of_ble_eq_true rfl) ⟨by show _ ≤ 600000; omega, by show _ ≤ 7302250; omega⟩ dL_law_150 (fun jj150 ri hp => ?_)
                obtain ⟨rfl, hjj150⟩ := hp
                refine z_if_ne C 158 dL_law_153 (by decide) ⟨by omega, by omega⟩ (fun hc24 => ?_) (fun hc24 => absurd hc24 (by omega))
                refine z_iinc C 1 [(2, .int (z_I (ei_9 + 1))), (3, .int (z_I vv)), (0, .ref b), (1, .ref (g2 0))] dL_law_158 rfl (by decide) rfl ?_
                refine z_goto C 58 dL_law_161 (by decide) ?_
                refine z_lsub [(2, .int (z_I (ei_9 + 1))), (0, .ref b), (1, .ref (g2 0))] [0, 2, 3] rfl ?_
                exact ih58 (ei_9 + 1) cu jj150 kc_9 ks_9 (by first | assumption | omega) (by first | assumption | omega) hx1 (by omega) hjj150 (by omega) (by omega) (by omega)
            · skip
              refine z_aload_n C 3 dL_law_136 rfl ?_
              refine z_callLM C [.ref (g2 0)] [] (c_L_isSafe l D cI cZ cO g2 cu jj79 hx1 tx3) gL_law_L_isSafe rfl zd_L_isSafe rfl ⟨Nat.le_of_ble_eq_true rfl, Nat.le_of_ble_eq_true rfl⟩ rfl (Nat.le_of_ble_eq_true rfl) ⟨by show _ ≤ 600000; omega, by show _ ≤ 7302250; omega⟩ dL_law_137 ?_
              refine z_if_eq C 156 dL_law_140 (by decide) ⟨by omega, by omega⟩ (fun hc25 => absurd hc25 (by omega)) (fun hc25 => ?_)
              refine z_iload_n C 1 dL_law_143 rfl ?_
              refine z_bipush C 90 dL_law_144 (by decide) ?_
              refine z_icmp_ne C 158 dL_law_146 (by decide) ⟨by omega, by omega⟩ ⟨by omega, by omega⟩ (fun hc26 => ?_) (fun hc26 => ?_)
              · skip
                refine z_iinc C 1 [(2, .int (z_I (ei_9 + 1))), (3, .int (z_I vv)), (0, .ref b), (1, .ref (g2 0))] dL_law_158 rfl (by decide) rfl ?_
                refine z_goto C 58 dL_law_161 (by decide) ?_
                refine z_lsub [(2, .int (z_I (ei_9 + 1))), (0, .ref b), (1, .ref (g2 0))] [0, 2, 3] rfl ?_
                exact ih58 (ei_9 + 1) cu jj79 kc_9 ks_9 (by first | assumption | omega) (by first | assumption | omega) hx1 (by omega) hjj79 (by omega) (by omega) (by omega)
              · skip
                refine z_aload_n C 3 dL_law_149 rfl ?_
                refine z_callLS C [.ref (g2 0)] [] (c_L_isBlamed l D cI cZ cO g2 cu jj79 hx1 tx3 hjj79) gL_law_L_isBlamed rfl zd_L_isBlamed rfl ⟨Nat.le_of_ble_eq_true rfl, Nat.le_of_ble_eq_true rfl⟩ rfl (Nat.le_of_ble_eq_true rfl) ⟨by show _ ≤ 600000; omega, by show _ ≤ 7302250; omega⟩ dL_law_150 (fun jj150 ri hp => ?_)
                obtain ⟨rfl, hjj150⟩ := hp
                refine z_if_ne C 158 dL_law_153 (by decide) ⟨by omega, by omega⟩ (fun hc27 => ?_) (fun hc27 => absurd hc27 (by omega))
                refine z_iinc C 1 [(2, .int (z_I (ei_9 + 1))), (3, .int (z_I vv)), (0, .ref b), (1, .ref (g2 0))] dL_law_158 rfl (by decide) rfl ?_
                refine z_goto C 58 dL_law_161 (by decide) ?_
                refine z_lsub [(2, .int (z_I (ei_9 + 1))), (0, .ref b), (1, .ref (g2 0))] [0, 2, 3] rfl ?_
                exact ih58 (ei_9 + 1) cu jj150 kc_9 ks_9 (by first | assumption | omega) (by first | assumption | omega) hx1 (by omega) hjj150 (by omega) (by omega) (by omega)
          · skip
            refine z_aload_n C 3 dL_law_110 rfl ?_
            refine z_iconst C 1 dL_law_111 ?_
            refine z_iload_n C 0 dL_law_112 rfl ?_
            refine z_iconst C 3 dL_law_113 ?_
            refine z_ishr C (x_sr vv 3) dL_law_114 (x_sr_eq _ _) ?_
            refine z_bipush C 50 dL_law_115 (by decide) ?_
            refine z_callSi C [] ((pw cI cZ cO g2 cu jj79 ++ []).flatten) [.int (z_I (x_sr vv 3)), .int (z_I 50)] [.int (z_I 1), .ref (g2 0)] (c_L_low l D (z_T cI cZ cO) (x_sr vv 3) 50 (by omega)) gL_law_L_low rfl zd_L_low rfl ⟨Nat.le_of_ble_eq_true rfl, Nat.le_of_ble_eq_true rfl⟩ rfl rfl rfl rfl rfl (Nat.le_of_ble_eq_true rfl) ⟨by show _ ≤ 600000; omega, by show _ ≤ 7302250; omega⟩ dL_law_117 ?_
            refine z_iadd C dL_law_120 ?_
            refine z_callLT C hN [.ref (g2 0), .int (z_I (1 + (x_lo (x_sr vv 3) 50)))] [] (c_L_isTest l D cI cZ cO g2 cu jj79 (1 + (x_lo (x_sr vv 3) 50)) hx1 tx3 (by omega) hjj79) gL_law_L_isTest rfl zd_L_isTest rfl ⟨Nat.le_of_ble_eq_true rfl, Nat.le_of_ble_eq_true rfl⟩ rfl (Nat.le_of_ble_eq_true rfl) ⟨by show _ ≤ 600000; omega, by show _ ≤ 7302250; omega⟩ dL_law_121 (fun jj121 ri hp => ?_)
            obtain ⟨rfl, hjj121⟩ := hp
            refine z_if_eq C 156 dL_law_124 (by decide) ⟨by omega, by omega⟩ (fun hc28 => absurd hc28 (by omega)) (fun hc28 => ?_)
            refine z_iload_n C 1 dL_law_127 rfl ?_
            refine z_bipush C 50 dL_law_128 (by decide) ?_
            refine z_irem C dL_law_130 ⟨by omega, by omega⟩ ⟨by omega, by omega⟩ ?_
            refine z_bipush C 31 dL_law_131 (by decide) ?_
            refine z_icmp_ne C 143 dL_law_133 (by decide) ⟨by omega, by omega⟩ ⟨by omega, by omega⟩ (fun hc29 => ?_) (fun hc29 => ?_)
            · skip
              refine z_iload_n C 1 dL_law_143 rfl ?_
              refine z_bipush C 90 dL_law_144 (by decide) ?_
              refine z_icmp_ne C 158 dL_law_146 (by decide) ⟨by omega, by omega⟩ ⟨by omega, by omega⟩ (fun hc30 => ?_) (fun hc30 => ?_)
              · skip
                refine z_iinc C 1 [(2, .int (z_I (ei_9 + 1))), (3, .int (z_I vv)), (0, .ref b), (1, .ref (g2 0))] dL_law_158 rfl (by decide) rfl ?_
                refine z_goto C 58 dL_law_161 (by decide) ?_
                refine z_lsub [(2, .int (z_I (ei_9 + 1))), (0, .ref b), (1, .ref (g2 0))] [0, 2, 3] rfl ?_
                exact ih58 (ei_9 + 1) cu jj121 (kc_9 + 161) (ks_9 + 6864) (by first | assumption | omega) (by first | assumption | omega) hx1 (by omega) hjj121 (by omega) (by omega) (by omega)
              · skip
                refine z_aload_n C 3 dL_law_149 rfl ?_
                refine z_callLS C [.ref (g2 0)] [] (c_L_isBlamed l D cI cZ cO g2 cu jj121 hx1 tx3 hjj121) gL_law_L_isBlamed rfl zd_L_isBlamed rfl ⟨Nat.le_of_ble_eq_true rfl, Nat.le_of_ble_eq_true rfl⟩ rfl (Nat.le_of_ble_eq_true rfl) ⟨by show _ ≤ 600000; omega, by show _ ≤ 7302250; omega⟩ dL_law_150 (fun jj150 ri hp => ?_)
                obtain ⟨rfl, hjj150⟩ := hp
                refine z_if_ne C 158 dL_law_153 (by decide) ⟨by omega, by omega⟩ (fun hc31 => ?_) (fun hc31 => absurd hc31 (by omega))
                refine z_iinc C 1 [(2, .int (z_I (ei_9 + 1))), (3, .int (z_I vv)), (0, .ref b), (1, .ref (g2 0))] dL_law_158 rfl (by decide) rfl ?_
                refine z_goto C 58 dL_law_161 (by decide) ?_
                refine z_lsub [(2, .int (z_I (ei_9 + 1))), (0, .ref b), (1, .ref (g2 0))] [0, 2, 3] rfl ?_
                exact ih58 (ei_9 + 1) cu jj150 (kc_9 + 161) (ks_9 + 6864) (by first | assumption | omega) (by first | assumption | omega) hx1 (by omega) hjj150 (by omega) (by omega) (by omega)
            · skip
              refine z_aload_n C 3 dL_law_136 rfl ?_
              refine z_callLM C [.ref (g2 0)] [] (c_L_isSafe l D cI cZ cO g2 cu jj121 hx1 tx3) gL_law_L_isSafe rfl zd_L_isSafe rfl ⟨Nat.le_of_ble_eq_true rfl, Nat.le_of_ble_eq_true rfl⟩ rfl (Nat.le_of_ble_eq_true rfl) ⟨by show _ ≤ 600000; omega, by show _ ≤ 7302250; omega⟩ dL_law_137 ?_
              refine z_if_eq C 156 dL_law_140 (by decide) ⟨by omega, by omega⟩ (fun hc32 => absurd hc32 (by omega)) (fun hc32 => ?_)
              refine z_iload_n C 1 dL_law_143 rfl ?_
              refine z_bipush C 90 dL_law_144 (by decide) ?_
              refine z_icmp_ne C 158 dL_law_146 (by decide) ⟨by omega, by omega⟩ ⟨by omega, by omega⟩ (fun hc33 => ?_) (fun hc33 => ?_)
              · skip
                refine z_iinc C 1 [(2, .int (z_I (ei_9 + 1))), (3, .int (z_I vv)), (0, .ref b), (1, .ref (g2 0))] dL_law_158 rfl (by decide) rfl ?_
                refine z_goto C 58 dL_law_161 (by decide) ?_
                refine z_lsub [(2, .int (z_I (ei_9 + 1))), (0, .ref b), (1, .ref (g2 0))] [0, 2, 3] rfl ?_
                exact ih58 (ei_9 + 1) cu jj121 (kc_9 + 161) (ks_9 + 6864) (by first | assumption | omega) (by first | assumption | omega) hx1 (by omega) hjj121 (by omega) (by omega) (by omega)
              · skip
                refine z_aload_n C 3 dL_law_149 rfl ?_
                refine z_callLS C [.ref (g2 0)] [] (c_L_isBlamed l D cI cZ cO g2 cu jj121 hx1 tx3 hjj121) gL_law_L_isBlamed rfl zd_L_isBlamed rfl ⟨Nat.le_of_ble_eq_true rfl, Nat.le_of_ble_eq_true rfl⟩ rfl (Nat.le_of_ble_eq_true rfl) ⟨by show _ ≤ 600000; omega, by show _ ≤ 7302250; omega⟩ dL_law_150 (fun jj150 ri hp => ?_)
                obtain ⟨rfl, hjj150⟩ := hp
                refine z_if_ne C 158 dL_law_153 (by decide) ⟨by omega, by omega⟩ (fun hc34 => ?_) (fun hc34 => absurd hc34 (by omega))
                refine z_iinc C 1 [(2, .int (z_I (ei_9 + 1))), (3, .int (z_I vv)), (0, .ref b), (1, .ref (g2 0))] dL_law_158 rfl (by decide) rfl ?_
                refine z_goto C 58 dL_law_161 (by decide) ?_
                refine z_lsub [(2, .int (z_I (ei_9 + 1))), (0, .ref b), (1, .ref (g2 0))] [0, 2, 3] rfl ?_
                exact ih58 (ei_9 + 1) cu jj150 (kc_9 + 161) (ks_9 + 6864) (by first | assumption | omega) (by first | assumption | omega) hx1 (by omega) hjj150 (by omega) (by omega) (by omega)
        · skip
          refine z_aload_n C 3 dL_law_92 rfl ?_
          refine z_callLM C [.ref (g2 0)] [] (c_L_areSeen l D cI cZ cO g2 cu jj79 hx1 tx3) gL_law_L_areSeen rfl zd_L_areSeen rfl ⟨Nat.le_of_ble_eq_true rfl, Nat.le_of_ble_eq_true rfl⟩ rfl (Nat.le_of_ble_eq_true rfl) ⟨by show _ ≤ 600000; omega, by show _ ≤ 7302250; omega⟩ dL_law_93 ?_
          refine z_if_ne C 101 dL_law_96 (by decide) ⟨by omega, by omega⟩ (fun hc35 => ?_) (fun hc35 => absurd hc35 (by omega))
          refine z_iload_n C 1 dL_law_101 rfl ?_
          refine z_bipush C 11 dL_law_102 (by decide) ?_
          refine z_irem C dL_law_104 ⟨by omega, by omega⟩ ⟨by omega, by omega⟩ ?_
          refine z_bipush C 7 dL_law_105 (by decide) ?_
          refine z_icmp_ne C 127 dL_law_107 (by decide) ⟨by omega, by omega⟩ ⟨by omega, by omega⟩ (fun hc36 => ?_) (fun hc36 => ?_)
          · skip
            refine z_iload_n C 1 dL_law_127 rfl ?_
            refine z_bipush C 50 dL_law_128 (by decide) ?_
            refine z_irem C dL_law_130 ⟨by omega, by omega⟩ ⟨by omega, by omega⟩ ?_
            refine z_bipush C 31 dL_law_131 (by decide) ?_
            refine z_icmp_ne C 143 dL_law_133 (by decide) ⟨by omega, by omega⟩ ⟨by omega, by omega⟩ (fun hc37 => ?_) (fun hc37 => ?_)
            · skip
              refine z_iload_n C 1 dL_law_143 rfl ?_
              refine z_bipush C 90 dL_law_144 (by decide) ?_
              refine z_icmp_ne C 158 dL_law_146 (by decide) ⟨by omega, by omega⟩ ⟨by omega, by omega⟩ (fun hc38 => ?_) (fun hc38 => ?_)
              · skip
                refine z_iinc C 1 [(2, .int (z_I (ei_9 + 1))), (3, .int (z_I vv)), (0, .ref b), (1, .ref (g2 0))] dL_law_158 rfl (by decide) rfl ?_
                refine z_goto C 58 dL_law_161 (by decide) ?_
                refine z_lsub [(2, .int (z_I (ei_9 + 1))), (0, .ref b), (1, .ref (g2 0))] [0, 2, 3] rfl ?_
                exact ih58 (ei_9 + 1) cu jj79 kc_9 ks_9 (by first | assumption | omega) (by first | assumption | omega) hx1 (by omega) hjj79 (by omega) (by omega) (by omega)
              · skip
                refine z_aload_n C 3 dL_law_149 rfl ?_
                refine z_callLS C [.ref (g2 0)] [] (c_L_isBlamed l D cI cZ cO g2 cu jj79 hx1 tx3 hjj79) gL_law_L_isBlamed rfl zd_L_isBlamed rfl ⟨Nat.le_of_ble_eq_true rfl, Nat.le_of_ble_eq_true rfl⟩ rfl (Nat.le_of_ble_eq_true rfl) ⟨by show _ ≤ 600000; omega, by show _ ≤ 7302250; omega⟩ dL_law_150 (fun jj150 ri hp => ?_)
                obtain ⟨rfl, hjj150⟩ := hp
                refine z_if_ne C 158 dL_law_153 (by decide) ⟨by omega, by omega⟩ (fun hc39 => ?_) (fun hc39 => absurd hc39 (by omega))
                refine z_iinc C 1 [(2, .int (z_I (ei_9 + 1))), (3, .int (z_I vv)), (0, .ref b), (1, .ref (g2 0))] dL_law_158 rfl (by decide) rfl ?_
                refine z_goto C 58 dL_law_161 (by decide) ?_
                refine z_lsub [(2, .int (z_I (ei_9 + 1))), (0, .ref b), (1, .ref (g2 0))] [0, 2, 3] rfl ?_
                exact ih58 (ei_9 + 1) cu jj150 kc_9 ks_9 (by first | assumption | omega) (by first | assumption | omega) hx1 (by omega) hjj150 (by omega) (by omega) (by omega)
            · skip
              refine z_aload_n C 3 dL_law_136 rfl ?_
              refine z_callLM C [.ref (g2 0)] [] (c_L_isSafe l D cI cZ cO g2 cu jj79 hx1 tx3) gL_law_L_isSafe rfl zd_L_isSafe rfl ⟨Nat.le_of_ble_eq_true rfl, Nat.le_of_ble_eq_true rfl⟩ rfl (Nat.le_of_ble_eq_true rfl) ⟨by show _ ≤ 600000; omega, by show _ ≤ 7302250; omega⟩ dL_law_137 ?_
              refine z_if_eq C 156 dL_law_140 (by decide) ⟨by omega, by omega⟩ (fun hc40 => absurd hc40 (by omega)) (fun hc40 => ?_)
              refine z_iload_n C 1 dL_law_143 rfl ?_
              refine z_bipush C 90 dL_law_144 (by decide) ?_
              refine z_icmp_ne C 158 dL_law_146 (by decide) ⟨by omega, by omega⟩ ⟨by omega, by omega⟩ (fun hc41 => ?_) (fun hc41 => ?_)
              · skip
                refine z_iinc C 1 [(2, .int (z_I (ei_9 + 1))), (3, .int (z_I vv)), (0, .ref b), (1, .ref (g2 0))] dL_law_158 rfl (by decide) rfl ?_
                refine z_goto C 58 dL_law_161 (by decide) ?_
                refine z_lsub [(2, .int (z_I (ei_9 + 1))), (0, .ref b), (1, .ref (g2 0))] [0, 2, 3] rfl ?_
                exact ih58 (ei_9 + 1) cu jj79 kc_9 ks_9 (by first | assumption | omega) (by first | assumption | omega) hx1 (by omega) hjj79 (by omega) (by omega) (by omega)
              · skip
                refine z_aload_n C 3 dL_law_149 rfl ?_
                refine z_callLS C [.ref (g2 0)] [] (c_L_isBlamed l D cI cZ cO g2 cu jj79 hx1 tx3 hjj79) gL_law_L_isBlamed rfl zd_L_isBlamed rfl ⟨Nat.le_of_ble_eq_true rfl, Nat.le_of_ble_eq_true rfl⟩ rfl (Nat.le_of_ble_eq_true rfl) ⟨by show _ ≤ 600000; omega, by show _ ≤ 7302250; omega⟩ dL_law_150 (fun jj150 ri hp => ?_)
                obtain ⟨rfl, hjj150⟩ := hp
                refine z_if_ne C 158 dL_law_153 (by decide) ⟨by omega, by omega⟩ (fun hc42 => ?_) (fun hc42 => absurd hc42 (by omega))
                refine z_iinc C 1 [(2, .int (z_I (ei_9 + 1))), (3, .int (z_I vv)), (0, .ref b), (1, .ref (g2 0))] dL_law_158 rfl (by decide) rfl ?_
                refine z_goto C 58 dL_law_161 (by decide) ?_
                refine z_lsub [(2, .int (z_I (ei_9 + 1))), (0, .ref b), (1, .ref (g2 0))] [0, 2, 3] rfl ?_
                exact ih58 (ei_9 + 1) cu jj150 kc_9 ks_9 (by first | assumption | omega) (by first | assumption | omega) hx1 (by omega) hjj150 (by omega) (by omega) (by omega)
          · skip
            refine z_aload_n C 3 dL_law_110 rfl ?_
            refine z_iconst C 1 dL_law_111 ?_
            refine z_iload_n C 0 dL_law_112 rfl ?_
            refine z_iconst C 3 dL_law_113 ?_
            refine z_ishr C (x_sr vv 3) dL_law_114 (x_sr_eq _ _) ?_
            refine z_bipush C 50 dL_law_115 (by decide) ?_
            refine z_callSi C [] ((pw cI cZ cO g2 cu jj79 ++ []).flatten) [.int (z_I (x_sr vv 3)), .int (z_I 50)] [.int (z_I 1), .ref (g2 0)] (c_L_low l D (z_T cI cZ cO) (x_sr vv 3) 50 (by omega)) gL_law_L_low rfl zd_L_low rfl ⟨Nat.le_of_ble_eq_true rfl, Nat.le_of_ble_eq_true rfl⟩ rfl rfl rfl rfl rfl (Nat.le_of_ble_eq_true rfl) ⟨by show _ ≤ 600000; omega, by show _ ≤ 7302250; omega⟩ dL_law_117 ?_
            refine z_iadd C dL_law_120 ?_
            refine z_callLT C hN [.ref (g2 0), .int (z_I (1 + (x_lo (x_sr vv 3) 50)))] [] (c_L_isTest l D cI cZ cO g2 cu jj79 (1 + (x_lo (x_sr vv 3) 50)) hx1 tx3 (by omega) hjj79) gL_law_L_isTest rfl zd_L_isTest rfl ⟨Nat.le_of_ble_eq_true rfl, Nat.le_of_ble_eq_true rfl⟩ rfl (Nat.le_of_ble_eq_true rfl) ⟨by show _ ≤ 600000; omega, by show _ ≤ 7302250; omega⟩ dL_law_121 (fun jj121 ri hp => ?_)
            obtain ⟨rfl, hjj121⟩ := hp
            refine z_if_eq C 156 dL_law_124 (by decide) ⟨by omega, by omega⟩ (fun hc43 => absurd hc43 (by omega)) (fun hc43 => ?_)
            refine z_iload_n C 1 dL_law_127 rfl ?_
            refine z_bipush C 50 dL_law_128 (by decide) ?_
            refine z_irem C dL_law_130 ⟨by omega, by omega⟩ ⟨by omega, by omega⟩ ?_
            refine z_bipush C 31 dL_law_131 (by decide) ?_
            refine z_icmp_ne C 143 dL_law_133 (by decide) ⟨by omega, by omega⟩ ⟨by omega, by omega⟩ (fun hc44 => ?_) (fun hc44 => ?_)
            · skip
              refine z_iload_n C 1 dL_law_143 rfl ?_
              refine z_bipush C 90 dL_law_144 (by decide) ?_
              refine z_icmp_ne C 158 dL_law_146 (by decide) ⟨by omega, by omega⟩ ⟨by omega, by omega⟩ (fun hc45 => ?_) (fun hc45 => ?_)
              · skip
                refine z_iinc C 1 [(2, .int (z_I (ei_9 + 1))), (3, .int (z_I vv)), (0, .ref b), (1, .ref (g2 0))] dL_law_158 rfl (by decide) rfl ?_
                refine z_goto C 58 dL_law_161 (by decide) ?_
                refine z_lsub [(2, .int (z_I (ei_9 + 1))), (0, .ref b), (1, .ref (g2 0))] [0, 2, 3] rfl ?_
                exact ih58 (ei_9 + 1) cu jj121 (kc_9 + 161) (ks_9 + 6864) (by first | assumption | omega) (by first | assumption | omega) hx1 (by omega) hjj121 (by omega) (by omega) (by omega)
              · skip
                refine z_aload_n C 3 dL_law_149 rfl ?_
                refine z_callLS C [.ref (g2 0)] [] (c_L_isBlamed l D cI cZ cO g2 cu jj121 hx1 tx3 hjj121) gL_law_L_isBlamed rfl zd_L_isBlamed rfl ⟨Nat.le_of_ble_eq_true rfl, Nat.le_of_ble_eq_true rfl⟩ rfl (Nat.le_of_ble_eq_true rfl) ⟨by show _ ≤ 600000; omega, by show _ ≤ 7302250; omega⟩ dL_law_150 (fun jj150 ri hp => ?_)
                obtain ⟨rfl, hjj150⟩ := hp
                refine z_if_ne C 158 dL_law_153 (by decide) ⟨by omega, by omega⟩ (fun hc46 => ?_) (fun hc46 => absurd hc46 (by omega))
                refine z_iinc C 1 [(2, .int (z_I (ei_9 + 1))), (3, .int (z_I vv)), (0, .ref b), (1, .ref (g2 0))] dL_law_158 rfl (by decide) rfl ?_
                refine z_goto C 58 dL_law_161 (by decide) ?_
                refine z_lsub [(2, .int (z_I (ei_9 + 1))), (0, .ref b), (1, .ref (g2 0))] [0, 2, 3] rfl ?_
                exact ih58 (ei_9 + 1) cu jj150 (kc_9 + 161) (ks_9 + 6864) (by first | assumption | omega) (by first | assumption | omega) hx1 (by omega) hjj150 (by omega) (by omega) (by omega)
            · skip
              refine z_aload_n C 3 dL_law_136 rfl ?_
              refine z_callLM C [.ref (g2 0)] [] (c_L_isSafe l D cI cZ cO g2 cu jj121 hx1 tx3) gL_law_L_isSafe rfl zd_L_isSafe rfl ⟨Nat.le_of_ble_eq_true rfl, Nat.le_of_ble_eq_true rfl⟩ rfl (Nat.le_of_ble_eq_true rfl) ⟨by show _ ≤ 600000; omega, by show _ ≤ 7302250; omega⟩ dL_law_137 ?_
              refine z_if_eq C 156 dL_law_140 (by decide) ⟨by omega, by omega⟩ (fun hc47 => absurd hc47 (by omega)) (fun hc47 => ?_)
              refine z_iload_n C 1 dL_law_143 rfl ?_
              refine z_bipush C 90 dL_law_144 (by decide) ?_
              refine z_icmp_ne C 158 dL_law_146 (by decide) ⟨by omega, by omega⟩ ⟨by omega, by omega⟩ (fun hc48 => ?_) (fun hc48 => ?_)
              · skip
                refine z_iinc C 1 [(2, .int (z_I (ei_9 + 1))), (3, .int (z_I vv)), (0, .ref b), (1, .ref (g2 0))] dL_law_158 rfl (by decide) rfl ?_
                refine z_goto C 58 dL_law_161 (by decide) ?_
                refine z_lsub [(2, .int (z_I (ei_9 + 1))), (0, .ref b), (1, .ref (g2 0))] [0, 2, 3] rfl ?_
                exact ih58 (ei_9 + 1) cu jj121 (kc_9 + 161) (ks_9 + 6864) (by first | assumption | omega) (by first | assumption | omega) hx1 (by omega) hjj121 (by omega) (by omega) (by omega)
              · skip
                refine z_aload_n C 3 dL_law_149 rfl ?_
                refine z_callLS C [.ref (g2 0)] [] (c_L_isBlamed l D cI cZ cO g2 cu jj121 hx1 tx3 hjj121) gL_law_L_isBlamed rfl zd_L_isBlamed rfl ⟨Nat.le_of_ble_eq_true rfl, Nat.le_of_ble_eq_true rfl⟩ rfl (Nat.le_of_ble_eq_true rfl) ⟨by show _ ≤ 600000; omega, by show _ ≤ 7302250; omega⟩ dL_law_150 (fun jj150 ri hp => ?_)
                obtain ⟨rfl, hjj150⟩ := hp
                refine z_if_ne C 158 dL_law_153 (by decide) ⟨by omega, by omega⟩ (fun hc49 => ?_) (fun hc49 => absurd hc49 (by omega))
                refine z_iinc C 1 [(2, .int (z_I (ei_9 + 1))), (3, .int (z_I vv)), (0, .ref b), (1, .ref (g2 0))] dL_law_158 rfl (by decide) rfl ?_
                refine z_goto C 58 dL_law_161 (by decide) ?_
                refine z_lsub [(2, .int (z_I (ei_9 + 1))), (0, .ref b), (1, .ref (g2 0))] [0, 2, 3] rfl ?_
                exact ih58 (ei_9 + 1) cu jj150 (kc_9 + 161) (ks_9 + 6864) (by first | assumption | omega) (by first | assumption | omega) hx1 (by omega) hjj150 (by omega) (by omega) (by omega)
  refine z_lsub [(2, .int (z_I 0)), (0, .ref b), (1, .ref (g2 0))] [0, 2, 1] rfl ?_
  exact loop58 111 0 z_ct0 jj48 161 6864 (by first | assumption | omega) (by first | assumption | omega) x_ok_ct0 (by decide) hjj48 (by omega) (by omega) (by omega)
