theorem zi_X7_carryOut_X7 : ∀ w ∈ u_ws RX7 TX7 7, w ∈ wsX7_carryOut := by decide +kernel
theorem zl_X7_carryOut_109 : Cond.fieldLink RX7 109 "RippleCountsModel" "length" "I" ∈ wsX7_carryOut := by decide +kernel
theorem zd_X7_carryOut : yX7_carryOut.cls ≠ "java/lang/invoke/MethodHandle" ∧ yX7_carryOut.cls ≠ "java/lang/invoke/VarHandle" ∧ (parseMethodDescriptor yX7_carryOut.desc).map (fun d => d.parameters.length) = some 0 := by decide +kernel
set_option maxHeartbeats 4000000 in
set_option maxRecDepth 100000 in
theorem c_X7_carryOut (l : Launch) (D : va_G) (cI cZ cO : ClassId) (hM aS aPa aSl aSv aPd : Nat) (kn ln : Int) (f : Int → Int) (pf : Int → Int) (ct : z_Ct) (kp od : Int) (hr : Int → z_Ct) (sg pd : Int → Int) (hrel : z_rel ct 0 f) (hok : z_ok ct) (htt : ct.1.1 ≤ 9999) (hmh : z_mh kp od hr kn pf) (hkp : 0 ≤ kp ∧ kp ≤ 6) (hod : 0 ≤ od ∧ od < 7) (hhr : ∀ j : Int, 0 ≤ j → j < 7 → z_ok (hr j)) (hln : 0 ≤ ln ∧ ln ≤ 80) (hsgn : ∀ i : Int, 0 ≤ i → i < ln → 0 ≤ sg i ∧ sg i < 256) (hpr : z_pr ln sg pd) : z_Ei ((Int → Int) × (Int → Int) × Int) l yX7_carryOut wsX7_carryOut 6 140 D (z_T cI cZ cO) [.ref hM] ([(hM, .inr (7, [.ref aS, .ref aPa, .int (z_I kn), .ref aSl, .ref aSv, .ref aPd, .int (z_I ln)])), (aS, z_ai cI 712 f), (aPa, z_ai cI 2136 pf), (aPd, z_ai cI 80 pd)]) (fun u => [(hM, .inr (7, [.ref aS, .ref aPa, .int (z_I u.2.2), .ref aSl, .ref aSv, .ref aPd, .int (z_I (if z_ff ln sg 0 0 ln.toNat = -6 then 0 else ln))])), (aS, z_ai cI 712 u.1), (aPa, z_ai cI 2136 u.2.1), (aPd, z_ai cI 80 pd)]) (fun ri u => ri = (if z_ff ln sg 0 0 ln.toNat = -6 then (z_co ln sg ct 0 0 ln.toNat).2 else -3) ∧ z_rel (if z_ff ln sg 0 0 ln.toNat = -6 then (z_co ln sg ct 0 0 ln.toNat).1 else ct) 0 u.1 ∧ z_mh (if z_ff ln sg 0 0 ln.toNat = -6 then z_stK (z_co ln sg ct 0 0 ln.toNat).2 kp else kp) (if z_ff ln sg 0 0 ln.toNat = -6 then z_stO (z_co ln sg ct 0 0 ln.toNat).2 kp od else od) (if z_ff ln sg 0 0 ln.toNat = -6 then (z_uc hr ((od + kp) % 7) ct) else hr) u.2.2 u.2.1) := by
  refine z_Ei_of (cc := cX7_carryOut) (nL := 7) (ret := (some .int)) (by decide +kernel) rfl (Nat.le_of_ble_eq_true rfl) ?_
  intro p e s m args below meth c A Q C hQ
  change z_V p l e { frames := 6, cells := 0, slots := 0, locals := 140 } s m args below meth c D A 7 0 0 Q ([(hM, .inr (7, [.ref aS, .ref aPa, .int (z_I kn), .ref aSl, .ref aSv, .ref aPd, .int (z_I ln)])), (aS, z_ai cI 712 f), (aPa, z_ai cI 2136 pf), (aPd, z_ai cI 80 pd)]) 0 [(0, .ref hM)] []
  obtain ⟨hw, hrd, hsg, hho, hck, hlc, hld, hlw, hrl0⟩ := id hok
  obtain ⟨ht0, hst, hsh, hdl, hdu, hdn, hB, htot, hbit, hzero, how⟩ := id hw
  obtain ⟨hrn, hrr, hla⟩ := id hrd
  obtain ⟨hsn, hrk, hfo, hcnt, hinj, hsur⟩ := id hsg
  have hp := z_p2_le (k := ct.1.2.1) (by omega)
  obtain ⟨y0, y1, y2, y3, y4, y5, y6, y7, y8⟩ := hrel.1
  simp only [Int.zero_add] at y1 y2 y3 y4 y5 y6 y7 y8
  have hkn := hmh.1
  have hff := z_ff_rng (sg := sg) hln
  have hcr := z_co_rng hsgn hok htt hln
  refine z_aload_n C 0 dX7_carryOut_0 rfl ?_
  refine z_callVi C [0, 3] [(hM, .inr (7, [.ref aS, .ref aPa, .int (z_I kn), .ref aSl, .ref aSv, .ref aPd, .int (z_I ln)])), (aS, z_ai cI 712 f), (aPa, z_ai cI 2136 pf), (aPd, z_ai cI 80 pd)] [] [] (c_X7_fault l D cI cZ cO hM aS aPa aSl aSv aPd kn ln sg pd (by first | assumption | omega) (by first | assumption | omega) (by first | assumption | omega)) gX7_carryOut_X7_fault rfl zd_X7_fault rfl (by decide) rfl rfl rfl (by decide) rfl rfl rfl (Nat.le_of_ble_eq_true rfl) (by decide) dX7_carryOut_1 ?_
  refine z_bipush C (-6) dX7_carryOut_4 (by decide) ?_
  refine z_icmp_eq C 12 dX7_carryOut_6 (by decide) (by omega) (by omega) (fun hc1 => ?_) (fun hc1 => ?_)
  · skip
    have hz : z_ff ln sg 0 0 ln.toNat = -6 := by omega
    refine z_aload_n C 0 dX7_carryOut_12 rfl ?_
    refine z_callVv C [0, 1, 2] [(hM, .inr (7, [.ref aS, .ref aPa, .int (z_I (if kn = 6 then 6 else kn + 1)), .ref aSl, .ref aSv, .ref aPd, .int (z_I ln)])), (aS, z_ai cI 712 f), (aPa, z_ai cI 2136 (z_rem f pf kn)), (aPd, z_ai cI 80 pd)] [] [] (c_X7_remembers l D cI cZ cO hM aS aPa aSl aSv aPd kn ln f pf (by omega)) gX7_carryOut_X7_remembers rfl zd_X7_remembers rfl (by decide) rfl rfl rfl (by decide) rfl rfl rfl (Nat.le_of_ble_eq_true rfl) (by decide) dX7_carryOut_13 ?_
    refine z_iconst C 0 dX7_carryOut_16 ?_
    refine z_istore_n C [(1, .int (z_I 0)), (0, .ref hM)] dX7_carryOut_17 (by decide) rfl ?_
    refine z_iconst C 0 dX7_carryOut_18 ?_
    refine z_istore_n C [(2, .int (z_I 0)), (1, .int (z_I 0)), (0, .ref hM)] dX7_carryOut_19 (by decide) rfl ?_
    refine z_iconst C 1 dX7_carryOut_20 ?_
    refine z_istore_n C [(3, .int (z_I 1)), (2, .int (z_I 0)), (1, .int (z_I 0)), (0, .ref hM)] dX7_carryOut_21 (by decide) rfl ?_
    have loop22 : ∀ (zn : Nat) (n : Int) (q : Int) (go : Int) (cz : z_Ct) (g : Int → Int), 0 ≤ q ∧ q ≤ ln + 1 → z_ok cz → cz.1.1 ≤ 9999 → z_rel cz 0 g → z_cs9 ln sg (z_co ln sg ct 0 0 ln.toNat) go cz n q → (ln + 2 - q) < (zn : Int) → z_V p l e { frames := 6, cells := 0, slots := 0, locals := 140 } s m args below meth c D A 7 0 0 Q [(hM, .inr (7, [.ref aS, .ref aPa, .int (z_I (if kn = 6 then 6 else kn + 1)), .ref aSl, .ref aSv, .ref aPd, .int (z_I ln)])), (aS, z_ai cI 712 g), (aPa, z_ai cI 2136 (z_rem f pf kn)), (aPd, z_ai cI 80 pd)] 22 [(3, .int (z_I go)), (2, .int (z_I q)), (1, .int (z_I n)), (0, .ref hM)] [] := by
      intro zn
      induction zn with
      | zero => intro n q go cz g hq hqo hqt hqr hcs hm22; exact absurd hm22 (by omega)
      | succ zn22 ih22 =>
        intro n q go cz g hq hqo hqt hqr hcs hm22
        have hgo := hcs.2.1
        refine z_iload_n C 1 dX7_carryOut_22 rfl ?_
        refine z_aload_n C 3 dX7_carryOut_23 rfl ?_
        refine z_get C 0 6 zi_X7_carryOut_X7 rfl rfl (by decide) zl_X7_carryOut_109 rfl rfl dX7_carryOut_24 ?_
        refine z_icmp_ge C 148 dX7_carryOut_27 (by decide) (by omega) (by omega) (fun hc2 => ?_) (fun hc2 => ?_)
        · skip
          have hfin : (z_co ln sg ct 0 0 ln.toNat) = (cz, n) := by
            rcases hgo with h9 | h9
            · exact hcs.2.2.1 h9
            · rcases hcs.2.2.2 h9 with h8 | h8
              · exact h8.2
              · omega
          refine z_aload_n C 3 dX7_carryOut_148 rfl ?_
          refine z_iconst C 0 dX7_carryOut_149 ?_
          refine z_put C 0 6 ([(hM, .inr (7, [.ref aS, .ref aPa, .int (z_I (if kn = 6 then 6 else kn + 1)), .ref aSl, .ref aSv, .ref aPd, .int (z_I 0)])), (aS, z_ai cI 712 g), (aPa, z_ai cI 2136 (z_rem f pf kn)), (aPd, z_ai cI 80 pd)]) zi_X7_carryOut_X7 tyX7_ok nmX7 rfl rfl (by decide) zl_X7_carryOut_109 rfl rfl rfl rfl (Nat.le_of_ble_eq_true rfl) rfl dX7_carryOut_150 ?_
          refine z_iload_n C 2 dX7_carryOut_153 rfl ?_
          refine z_ws [(hM, .inr (7, [.ref aS, .ref aPa, .int (z_I (if kn = 6 then 6 else kn + 1)), .ref aSl, .ref aSv, .ref aPd, .int (z_I (if z_ff ln sg 0 0 ln.toNat = -6 then 0 else ln))])), (aS, z_ai cI 712 g), (aPa, z_ai cI 2136 (z_rem f pf kn)), (aPd, z_ai cI 80 pd)] (by rw [if_pos hz]) ?_
          exact z_irete C hQ (g, (z_rem f pf kn), (if kn = 6 then 6 else kn + 1)) rfl ⟨by rw [if_pos hz, hfin], by rw [if_pos hz, hfin]; exact hqr, by rw [if_pos hz, if_pos hz, if_pos hz]; exact z_mh_rem hmh hkp hod hrel hok hhr (by omega)⟩ dX7_carryOut_154
        · skip
          refine z_iload_n C 0 dX7_carryOut_30 rfl ?_
          refine z_if_eq C 148 dX7_carryOut_31 (by decide) (by omega) (fun hc3 => ?_) (fun hc3 => ?_)
          · skip
            have hfin : (z_co ln sg ct 0 0 ln.toNat) = (cz, n) := hcs.2.2.1 (by omega)
            refine z_aload_n C 3 dX7_carryOut_148 rfl ?_
            refine z_iconst C 0 dX7_carryOut_149 ?_
            refine z_put C 0 6 ([(hM, .inr (7, [.ref aS, .ref aPa, .int (z_I (if kn = 6 then 6 else kn + 1)), .ref aSl, .ref aSv, .ref aPd, .int (z_I 0)])), (aS, z_ai cI 712 g), (aPa, z_ai cI 2136 (z_rem f pf kn)), (aPd, z_ai cI 80 pd)]) zi_X7_carryOut_X7 tyX7_ok nmX7 rfl rfl (by decide) zl_X7_carryOut_109 rfl rfl rfl rfl (Nat.le_of_ble_eq_true rfl) rfl dX7_carryOut_150 ?_
            refine z_iload_n C 2 dX7_carryOut_153 rfl ?_
            refine z_ws [(hM, .inr (7, [.ref aS, .ref aPa, .int (z_I (if kn = 6 then 6 else kn + 1)), .ref aSl, .ref aSv, .ref aPd, .int (z_I (if z_ff ln sg 0 0 ln.toNat = -6 then 0 else ln))])), (aS, z_ai cI 712 g), (aPa, z_ai cI 2136 (z_rem f pf kn)), (aPd, z_ai cI 80 pd)] (by rw [if_pos hz]) ?_
            exact z_irete C hQ (g, (z_rem f pf kn), (if kn = 6 then 6 else kn + 1)) rfl ⟨by rw [if_pos hz, hfin], by rw [if_pos hz, hfin]; exact hqr, by rw [if_pos hz, if_pos hz, if_pos hz]; exact z_mh_rem hmh hkp hod hrel hok hhr (by omega)⟩ dX7_carryOut_154
          · skip
            have hgo1 : go = 1 := by omega
            obtain ⟨hs9, hff9⟩ : (q = 0 ∨ sg (q - 1) = 59) ∧ z_ff ln sg q 0 (ln - q).toNat = -6 := by
              rcases hcs.2.2.2 hgo1 with h9 | h9
              · omega
              · exact ⟨h9.2.1, h9.2.2.1⟩
            rw [hgo1] at hcs
            obtain ⟨hst9, -⟩ := z_st_ff hq.1 (by omega) hff9
            have hbd := z_oe_bd hq.1 (by omega) hst9.1
            have hoa := z_oa_st hq.1 hst9 hs9
            have hoar := z_oa_rng hsgn q
            have hmg := z_mg_rng hsgn hq.1
            have hd1 := z_dg_rng ln sg (q + 1)
            have hsm := (z_st_kind hq.1 hst9).2.1
            refine z_aload_n C 3 dX7_carryOut_34 rfl ?_
            refine z_iload_n C 1 dX7_carryOut_35 rfl ?_
            refine z_callVi C [0, 3] [(hM, .inr (7, [.ref aS, .ref aPa, .int (z_I (if kn = 6 then 6 else kn + 1)), .ref aSl, .ref aSv, .ref aPd, .int (z_I ln)])), (aS, z_ai cI 712 g), (aPa, z_ai cI 2136 (z_rem f pf kn)), (aPd, z_ai cI 80 pd)] [.int (z_I q)] [] (c_X7_sign l D cI cZ cO hM aS aPa aSl aSv aPd (if kn = 6 then 6 else kn + 1) ln sg pd q (by first | assumption | omega) (by first | assumption | omega) (by first | assumption | omega) (by first | assumption | omega)) gX7_carryOut_X7_sign rfl zd_X7_sign rfl (by decide) rfl rfl rfl (by decide) rfl rfl rfl (Nat.le_of_ble_eq_true rfl) (by decide) dX7_carryOut_36 ?_
            refine z_bipush C 99 dX7_carryOut_39 (by decide) ?_
            refine z_icmp_ne C 58 dX7_carryOut_41 (by decide) (by omega) (by omega) (fun hc4 => ?_) (fun hc4 => ?_)
            · skip
              have hoaM : z_oa ln sg q = 1 := by rw [hoa, if_neg (by omega)]
              refine z_iconst C 0 dX7_carryOut_58 ?_
              refine z_istore C [(4, .int (z_I 0)), (3, .int (z_I go)), (2, .int (z_I q)), (1, .int (z_I n)), (0, .ref hM)] dX7_carryOut_59 (by decide) rfl ?_
              refine z_iload C 0 dX7_carryOut_61 rfl ?_
              refine z_if_eq C 76 dX7_carryOut_63 (by decide) (by omega) (fun hc5 => ?_) (fun hc5 => ?_)
              · first
                | (exfalso; omega)
                | skip
                  refine z_iconst C 1 dX7_carryOut_76 ?_
                  refine z_istore C [(5, .int (z_I 1)), (4, .int (z_I 0)), (3, .int (z_I go)), (2, .int (z_I q)), (1, .int (z_I n)), (0, .ref hM)] dX7_carryOut_77 (by decide) rfl ?_
                  refine z_iconst C 0 dX7_carryOut_79 ?_
                  refine z_istore C [(6, .int (z_I 0)), (5, .int (z_I 1)), (4, .int (z_I 0)), (3, .int (z_I go)), (2, .int (z_I q)), (1, .int (z_I n)), (0, .ref hM)] dX7_carryOut_80 (by decide) rfl ?_
                  have loop82 : ∀ (zn : Nat) (i : Int) (go2 : Int) (n2 : Int) (c2 : z_Ct) (g2 : Int → Int), 0 ≤ i ∧ (i ≤ z_oa ln sg q ∨ i = 0) → z_ok c2 → c2.1.1 ≤ 9999 → z_rel c2 0 g2 → z_ci9 ln sg cz n q (z_oa ln sg q) go2 c2 n2 i → (z_oa ln sg q - i + 1) < (zn : Int) → z_V p l e { frames := 6, cells := 0, slots := 0, locals := 140 } s m args below meth c D A 7 0 0 Q [(hM, .inr (7, [.ref aS, .ref aPa, .int (z_I (if kn = 6 then 6 else kn + 1)), .ref aSl, .ref aSv, .ref aPd, .int (z_I ln)])), (aS, z_ai cI 712 g2), (aPa, z_ai cI 2136 (z_rem f pf kn)), (aPd, z_ai cI 80 pd)] 82 [(6, .int (z_I i)), (5, .int (z_I 1)), (4, .int (z_I 0)), (3, .int (z_I go2)), (2, .int (z_I q)), (1, .int (z_I n2)), (0, .ref hM)] [] := by
                    intro zn
                    induction zn with
                    | zero => intro i go2 n2 c2 g2 hi hqo2 hqt2 hqr2 hii hm82; exact absurd hm82 (by omega)
                    | succ zn82 ih82 =>
                      intro i go2 n2 c2 g2 hi hqo2 hqt2 hqr2 hii hm82
                      have hgo2 : go2 = 0 ∨ go2 = 1 := by rcases hii.2 with h9 | h9 <;> omega
                      refine z_iload C 0 dX7_carryOut_82 rfl ?_
                      refine z_iload C 1 dX7_carryOut_84 rfl ?_
                      refine z_icmp_ge C 137 dX7_carryOut_86 (by decide) (by omega) (by omega) (fun hc6 => ?_) (fun hc6 => ?_)
                      · skip
                        refine z_aload_n C 6 dX7_carryOut_137 rfl ?_
                        refine z_iload_n C 4 dX7_carryOut_138 rfl ?_
                        refine z_callVi C [0, 3] [(hM, .inr (7, [.ref aS, .ref aPa, .int (z_I (if kn = 6 then 6 else kn + 1)), .ref aSl, .ref aSv, .ref aPd, .int (z_I ln)])), (aS, z_ai cI 712 g2), (aPa, z_ai cI 2136 (z_rem f pf kn)), (aPd, z_ai cI 80 pd)] [.int (z_I q)] [] (c_X7_orderEnd l D cI cZ cO hM aS aPa aSl aSv aPd (if kn = 6 then 6 else kn + 1) ln sg pd q (by first | assumption | omega) (by first | assumption | omega) (by first | assumption | omega) (by first | assumption | omega)) gX7_carryOut_X7_orderEnd rfl zd_X7_orderEnd rfl (by decide) rfl rfl rfl (by decide) rfl rfl rfl (Nat.le_of_ble_eq_true rfl) (by decide) dX7_carryOut_139 ?_
                        refine z_iconst C 1 dX7_carryOut_142 ?_
                        refine z_iadd C dX7_carryOut_143 ?_
                        refine z_istore_n C [(2, .int (z_I ((z_oe ln sg q) + 1))), (6, .int (z_I i)), (5, .int (z_I 1)), (4, .int (z_I 0)), (3, .int (z_I go2)), (1, .int (z_I n2)), (0, .ref hM)] dX7_carryOut_144 (by decide) rfl ?_
                        refine z_goto C 22 dX7_carryOut_145 (by decide) ?_
                        refine z_lsub [(3, .int (z_I go2)), (2, .int (z_I ((z_oe ln sg q) + 1))), (1, .int (z_I n2)), (0, .ref hM)] [4, 0, 5, 6] rfl ?_
                        exact ih22 n2 ((z_oe ln sg q) + 1) go2 c2 g2 (by first | assumption | omega) hqo2 hqt2 hqr2 (z_cs9_n hcs (by omega) hii (by omega)) (by omega)
                      · skip
                        refine z_iload_n C 3 dX7_carryOut_89 rfl ?_
                        refine z_if_eq C 137 dX7_carryOut_90 (by decide) (by omega) (fun hc7 => ?_) (fun hc7 => ?_)
                        · skip
                          refine z_aload_n C 6 dX7_carryOut_137 rfl ?_
                          refine z_iload_n C 4 dX7_carryOut_138 rfl ?_
                          refine z_callVi C [0, 3] [(hM, .inr (7, [.ref aS, .ref aPa, .int (z_I (if kn = 6 then 6 else kn + 1)), .ref aSl, .ref aSv, .ref aPd, .int (z_I ln)])), (aS, z_ai cI 712 g2), (aPa, z_ai cI 2136 (z_rem f pf kn)), (aPd, z_ai cI 80 pd)] [.int (z_I q)] [] (c_X7_orderEnd l D cI cZ cO hM aS aPa aSl aSv aPd (if kn = 6 then 6 else kn + 1) ln sg pd q (by first | assumption | omega) (by first | assumption | omega) (by first | assumption | omega) (by first | assumption | omega)) gX7_carryOut_X7_orderEnd rfl zd_X7_orderEnd rfl (by decide) rfl rfl rfl (by decide) rfl rfl rfl (Nat.le_of_ble_eq_true rfl) (by decide) dX7_carryOut_139 ?_
                          refine z_iconst C 1 dX7_carryOut_142 ?_
                          refine z_iadd C dX7_carryOut_143 ?_
                          refine z_istore_n C [(2, .int (z_I ((z_oe ln sg q) + 1))), (6, .int (z_I i)), (5, .int (z_I 1)), (4, .int (z_I 0)), (3, .int (z_I go2)), (1, .int (z_I n2)), (0, .ref hM)] dX7_carryOut_144 (by decide) rfl ?_
                          refine z_goto C 22 dX7_carryOut_145 (by decide) ?_
                          refine z_lsub [(3, .int (z_I go2)), (2, .int (z_I ((z_oe ln sg q) + 1))), (1, .int (z_I n2)), (0, .ref hM)] [4, 0, 5, 6] rfl ?_
                          exact ih22 n2 ((z_oe ln sg q) + 1) go2 c2 g2 (by first | assumption | omega) hqo2 hqt2 hqr2 (z_cs9_n hcs (by omega) hii (by omega)) (by omega)
                        · skip
                          have hg21 : go2 = 1 := by omega
                          rw [hg21] at hii
                          refine z_iload C 2 dX7_carryOut_93 rfl ?_
                          refine z_if_eq C 105 dX7_carryOut_95 (by decide) (by omega) (fun hc8 => ?_) (fun hc8 => ?_)
                          · first
                            | (exfalso; omega)
                            | skip
                              refine z_aload_n C 6 dX7_carryOut_105 rfl ?_
                              refine z_iload_n C 4 dX7_carryOut_106 rfl ?_
                              refine z_callEi C [0, 1, 3] (fun u2 => [(hM, .inr (7, [.ref aS, .ref aPa, .int (z_I (if kn = 6 then 6 else kn + 1)), .ref aSl, .ref aSv, .ref aPd, .int (z_I ln)])), (aS, z_ai cI 712 u2), (aPa, z_ai cI 2136 (z_rem f pf kn)), (aPd, z_ai cI 80 pd)]) [.int (z_I q)] [] (c_X7_carries l D cI cZ cO hM aS aPa aSl aSv aPd (if kn = 6 then 6 else kn + 1) ln g2 sg pd c2 q hqr2 hqo2 hqt2 (by first | assumption | omega) (by first | assumption | omega) (by first | assumption | omega) (by first | assumption | omega) hst9 (by omega)) gX7_carryOut_X7_carries rfl zd_X7_carries rfl (by decide) rfl rfl rfl (by decide) (fun _ => rfl) (fun _ => rfl) rfl (Nat.le_of_ble_eq_true rfl) (by decide) dX7_carryOut_107 (fun u2 ri2 hp2 => ?_)
                              refine z_if_ne C 117 dX7_carryOut_110 (by decide) (by omega) (fun hc9 => ?_) (fun hc9 => ?_)
                              · skip
                                have hz2 : ¬ ri2 = 0 := hc9
                                refine z_iconst C 0 dX7_carryOut_117 ?_
                                refine z_istore_n C [(3, .int (z_I 0)), (6, .int (z_I i)), (5, .int (z_I 1)), (4, .int (z_I 0)), (2, .int (z_I q)), (1, .int (z_I n2)), (0, .ref hM)] dX7_carryOut_118 (by decide) rfl ?_
                                refine z_iload_n C 5 dX7_carryOut_119 rfl ?_
                                refine z_iload_n C 0 dX7_carryOut_120 rfl ?_
                                refine z_if_eq C 128 dX7_carryOut_121 (by decide) (by omega) (fun hc10 => ?_) (fun hc10 => ?_)
                                · first
                                  | (exfalso; omega)
                                  | skip
                                    refine z_iconst C 0 dX7_carryOut_128 ?_
                                    refine z_iadd C dX7_carryOut_129 ?_
                                    refine z_istore_n C [(1, .int (z_I (n2 + 0))), (3, .int (z_I 0)), (6, .int (z_I i)), (5, .int (z_I 1)), (4, .int (z_I 0)), (2, .int (z_I q)), (0, .ref hM)] dX7_carryOut_130 (by decide) rfl ?_
                                    refine z_iinc C 2 [(6, .int (z_I (i + 1))), (1, .int (z_I (n2 + 0))), (3, .int (z_I 0)), (5, .int (z_I 1)), (4, .int (z_I 0)), (2, .int (z_I q)), (0, .ref hM)] dX7_carryOut_131 rfl (by decide) rfl ?_
                                    refine z_goto C 82 dX7_carryOut_134 (by decide) ?_
                                    refine z_lsub [(6, .int (z_I (i + 1))), (5, .int (z_I 1)), (4, .int (z_I 0)), (3, .int (z_I 0)), (2, .int (z_I q)), (1, .int (z_I (n2 + 0))), (0, .ref hM)] [0, 3, 4, 2, 5, 1, 6] rfl ?_
                                    exact ih82 (i + 1) 0 (n2 + 0) ((z_c1 ln sg c2 q).1) u2 (by first | assumption | omega) (z_c1_ok hsgn hqo2 hqt2 (by omega)).1 (z_c1_ok hsgn hqo2 hqt2 (by omega)).2 hp2.1 (by have h9 := z_ci9_s hii (by omega) hp2.2.1; first | (rw [if_pos hz2] at h9; exact h9) | (rw [if_neg hz2] at h9; exact h9)) (by omega)
                                · first
                                  | (exfalso; omega)
                                  | skip
                                    refine z_iconst C 1 dX7_carryOut_124 ?_
                                    refine z_goto C 129 dX7_carryOut_125 (by decide) ?_
                                    refine z_iadd C dX7_carryOut_129 ?_
                                    refine z_istore_n C [(1, .int (z_I (n2 + 1))), (3, .int (z_I 0)), (6, .int (z_I i)), (5, .int (z_I 1)), (4, .int (z_I 0)), (2, .int (z_I q)), (0, .ref hM)] dX7_carryOut_130 (by decide) rfl ?_
                                    refine z_iinc C 2 [(6, .int (z_I (i + 1))), (1, .int (z_I (n2 + 1))), (3, .int (z_I 0)), (5, .int (z_I 1)), (4, .int (z_I 0)), (2, .int (z_I q)), (0, .ref hM)] dX7_carryOut_131 rfl (by decide) rfl ?_
                                    refine z_goto C 82 dX7_carryOut_134 (by decide) ?_
                                    refine z_lsub [(6, .int (z_I (i + 1))), (5, .int (z_I 1)), (4, .int (z_I 0)), (3, .int (z_I 0)), (2, .int (z_I q)), (1, .int (z_I (n2 + 1))), (0, .ref hM)] [0, 3, 4, 2, 5, 1, 6] rfl ?_
                                    exact ih82 (i + 1) 0 (n2 + 1) ((z_c1 ln sg c2 q).1) u2 (by first | assumption | omega) (z_c1_ok hsgn hqo2 hqt2 (by omega)).1 (z_c1_ok hsgn hqo2 hqt2 (by omega)).2 hp2.1 (by have h9 := z_ci9_s hii (by omega) hp2.2.1; first | (rw [if_pos hz2] at h9; exact h9) | (rw [if_neg hz2] at h9; exact h9)) (by omega)
                              · skip
                                have hz2 : ri2 = 0 := by omega
                                refine z_iconst C 1 dX7_carryOut_113 ?_
                                refine z_goto C 118 dX7_carryOut_114 (by decide) ?_
                                refine z_istore_n C [(3, .int (z_I 1)), (6, .int (z_I i)), (5, .int (z_I 1)), (4, .int (z_I 0)), (2, .int (z_I q)), (1, .int (z_I n2)), (0, .ref hM)] dX7_carryOut_118 (by decide) rfl ?_
                                refine z_iload_n C 5 dX7_carryOut_119 rfl ?_
                                refine z_iload_n C 0 dX7_carryOut_120 rfl ?_
                                refine z_if_eq C 128 dX7_carryOut_121 (by decide) (by omega) (fun hc11 => ?_) (fun hc11 => ?_)
                                · first
                                  | (exfalso; omega)
                                  | skip
                                    refine z_iconst C 0 dX7_carryOut_128 ?_
                                    refine z_iadd C dX7_carryOut_129 ?_
                                    refine z_istore_n C [(1, .int (z_I (n2 + 0))), (3, .int (z_I 1)), (6, .int (z_I i)), (5, .int (z_I 1)), (4, .int (z_I 0)), (2, .int (z_I q)), (0, .ref hM)] dX7_carryOut_130 (by decide) rfl ?_
                                    refine z_iinc C 2 [(6, .int (z_I (i + 1))), (1, .int (z_I (n2 + 0))), (3, .int (z_I 1)), (5, .int (z_I 1)), (4, .int (z_I 0)), (2, .int (z_I q)), (0, .ref hM)] dX7_carryOut_131 rfl (by decide) rfl ?_
                                    refine z_goto C 82 dX7_carryOut_134 (by decide) ?_
                                    refine z_lsub [(6, .int (z_I (i + 1))), (5, .int (z_I 1)), (4, .int (z_I 0)), (3, .int (z_I 1)), (2, .int (z_I q)), (1, .int (z_I (n2 + 0))), (0, .ref hM)] [0, 3, 4, 2, 5, 1, 6] rfl ?_
                                    exact ih82 (i + 1) 1 (n2 + 0) ((z_c1 ln sg c2 q).1) u2 (by first | assumption | omega) (z_c1_ok hsgn hqo2 hqt2 (by omega)).1 (z_c1_ok hsgn hqo2 hqt2 (by omega)).2 hp2.1 (by have h9 := z_ci9_s hii (by omega) hp2.2.1; first | (rw [if_pos hz2] at h9; exact h9) | (rw [if_neg hz2] at h9; exact h9)) (by omega)
                                · first
                                  | (exfalso; omega)
                                  | skip
                                    refine z_iconst C 1 dX7_carryOut_124 ?_
                                    refine z_goto C 129 dX7_carryOut_125 (by decide) ?_
                                    refine z_iadd C dX7_carryOut_129 ?_
                                    refine z_istore_n C [(1, .int (z_I (n2 + 1))), (3, .int (z_I 1)), (6, .int (z_I i)), (5, .int (z_I 1)), (4, .int (z_I 0)), (2, .int (z_I q)), (0, .ref hM)] dX7_carryOut_130 (by decide) rfl ?_
                                    refine z_iinc C 2 [(6, .int (z_I (i + 1))), (1, .int (z_I (n2 + 1))), (3, .int (z_I 1)), (5, .int (z_I 1)), (4, .int (z_I 0)), (2, .int (z_I q)), (0, .ref hM)] dX7_carryOut_131 rfl (by decide) rfl ?_
                                    refine z_goto C 82 dX7_carryOut_134 (by decide) ?_
                                    refine z_lsub [(6, .int (z_I (i + 1))), (5, .int (z_I 1)), (4, .int (z_I 0)), (3, .int (z_I 1)), (2, .int (z_I q)), (1, .int (z_I (n2 + 1))), (0, .ref hM)] [0, 3, 4, 2, 5, 1, 6] rfl ?_
                                    exact ih82 (i + 1) 1 (n2 + 1) ((z_c1 ln sg c2 q).1) u2 (by first | assumption | omega) (z_c1_ok hsgn hqo2 hqt2 (by omega)).1 (z_c1_ok hsgn hqo2 hqt2 (by omega)).2 hp2.1 (by have h9 := z_ci9_s hii (by omega) hp2.2.1; first | (rw [if_pos hz2] at h9; exact h9) | (rw [if_neg hz2] at h9; exact h9)) (by omega)
                          · first
                            | (exfalso; omega)
                            | skip
                              refine z_aload_n C 6 dX7_carryOut_98 rfl ?_
                              refine z_callEi C [0, 1] (fun u2 => [(hM, .inr (7, [.ref aS, .ref aPa, .int (z_I (if kn = 6 then 6 else kn + 1)), .ref aSl, .ref aSv, .ref aPd, .int (z_I ln)])), (aS, z_ai cI 712 u2), (aPa, z_ai cI 2136 (z_rem f pf kn)), (aPd, z_ai cI 80 pd)]) [] [] (c_X7_ticks l D cI cZ cO hM aS aPa aSl aSv aPd (if kn = 6 then 6 else kn + 1) ln g2 c2 hqr2 hqo2 hqt2) gX7_carryOut_X7_ticks rfl zd_X7_ticks rfl (by decide) rfl rfl rfl (by decide) (fun _ => rfl) (fun _ => rfl) rfl (Nat.le_of_ble_eq_true rfl) (by decide) dX7_carryOut_99 (fun u2 ri2 hp2 => ?_)
                              rw [← hrow c2] at hp2
                              refine z_goto C 110 dX7_carryOut_102 (by decide) ?_
                              refine z_if_ne C 117 dX7_carryOut_110 (by decide) (by omega) (fun hc12 => ?_) (fun hc12 => ?_)
                              · skip
                                have hz2 : ¬ ri2 = 0 := hc12
                                refine z_iconst C 0 dX7_carryOut_117 ?_
                                refine z_istore_n C [(3, .int (z_I 0)), (6, .int (z_I i)), (5, .int (z_I 1)), (4, .int (z_I 0)), (2, .int (z_I q)), (1, .int (z_I n2)), (0, .ref hM)] dX7_carryOut_118 (by decide) rfl ?_
                                refine z_iload_n C 5 dX7_carryOut_119 rfl ?_
                                refine z_iload_n C 0 dX7_carryOut_120 rfl ?_
                                refine z_if_eq C 128 dX7_carryOut_121 (by decide) (by omega) (fun hc13 => ?_) (fun hc13 => ?_)
                                · first
                                  | (exfalso; omega)
                                  | skip
                                    refine z_iconst C 0 dX7_carryOut_128 ?_
                                    refine z_iadd C dX7_carryOut_129 ?_
                                    refine z_istore_n C [(1, .int (z_I (n2 + 0))), (3, .int (z_I 0)), (6, .int (z_I i)), (5, .int (z_I 1)), (4, .int (z_I 0)), (2, .int (z_I q)), (0, .ref hM)] dX7_carryOut_130 (by decide) rfl ?_
                                    refine z_iinc C 2 [(6, .int (z_I (i + 1))), (1, .int (z_I (n2 + 0))), (3, .int (z_I 0)), (5, .int (z_I 1)), (4, .int (z_I 0)), (2, .int (z_I q)), (0, .ref hM)] dX7_carryOut_131 rfl (by decide) rfl ?_
                                    refine z_goto C 82 dX7_carryOut_134 (by decide) ?_
                                    refine z_lsub [(6, .int (z_I (i + 1))), (5, .int (z_I 1)), (4, .int (z_I 0)), (3, .int (z_I 0)), (2, .int (z_I q)), (1, .int (z_I (n2 + 0))), (0, .ref hM)] [0, 3, 4, 2, 5, 1, 6] rfl ?_
                                    exact ih82 (i + 1) 0 (n2 + 0) ((z_c1 ln sg c2 q).1) u2 (by first | assumption | omega) (z_c1_ok hsgn hqo2 hqt2 (by omega)).1 (z_c1_ok hsgn hqo2 hqt2 (by omega)).2 hp2.1 (by have h9 := z_ci9_s hii (by omega) hp2.2.1; first | (rw [if_pos hz2] at h9; exact h9) | (rw [if_neg hz2] at h9; exact h9)) (by omega)
                                · first
                                  | (exfalso; omega)
                                  | skip
                                    refine z_iconst C 1 dX7_carryOut_124 ?_
                                    refine z_goto C 129 dX7_carryOut_125 (by decide) ?_
                                    refine z_iadd C dX7_carryOut_129 ?_
                                    refine z_istore_n C [(1, .int (z_I (n2 + 1))), (3, .int (z_I 0)), (6, .int (z_I i)), (5, .int (z_I 1)), (4, .int (z_I 0)), (2, .int (z_I q)), (0, .ref hM)] dX7_carryOut_130 (by decide) rfl ?_
                                    refine z_iinc C 2 [(6, .int (z_I (i + 1))), (1, .int (z_I (n2 + 1))), (3, .int (z_I 0)), (5, .int (z_I 1)), (4, .int (z_I 0)), (2, .int (z_I q)), (0, .ref hM)] dX7_carryOut_131 rfl (by decide) rfl ?_
                                    refine z_goto C 82 dX7_carryOut_134 (by decide) ?_
                                    refine z_lsub [(6, .int (z_I (i + 1))), (5, .int (z_I 1)), (4, .int (z_I 0)), (3, .int (z_I 0)), (2, .int (z_I q)), (1, .int (z_I (n2 + 1))), (0, .ref hM)] [0, 3, 4, 2, 5, 1, 6] rfl ?_
                                    exact ih82 (i + 1) 0 (n2 + 1) ((z_c1 ln sg c2 q).1) u2 (by first | assumption | omega) (z_c1_ok hsgn hqo2 hqt2 (by omega)).1 (z_c1_ok hsgn hqo2 hqt2 (by omega)).2 hp2.1 (by have h9 := z_ci9_s hii (by omega) hp2.2.1; first | (rw [if_pos hz2] at h9; exact h9) | (rw [if_neg hz2] at h9; exact h9)) (by omega)
                              · skip
                                have hz2 : ri2 = 0 := by omega
                                refine z_iconst C 1 dX7_carryOut_113 ?_
                                refine z_goto C 118 dX7_carryOut_114 (by decide) ?_
                                refine z_istore_n C [(3, .int (z_I 1)), (6, .int (z_I i)), (5, .int (z_I 1)), (4, .int (z_I 0)), (2, .int (z_I q)), (1, .int (z_I n2)), (0, .ref hM)] dX7_carryOut_118 (by decide) rfl ?_
                                refine z_iload_n C 5 dX7_carryOut_119 rfl ?_
                                refine z_iload_n C 0 dX7_carryOut_120 rfl ?_
                                refine z_if_eq C 128 dX7_carryOut_121 (by decide) (by omega) (fun hc14 => ?_) (fun hc14 => ?_)
                                · first
                                  | (exfalso; omega)
                                  | skip
                                    refine z_iconst C 0 dX7_carryOut_128 ?_
                                    refine z_iadd C dX7_carryOut_129 ?_
                                    refine z_istore_n C [(1, .int (z_I (n2 + 0))), (3, .int (z_I 1)), (6, .int (z_I i)), (5, .int (z_I 1)), (4, .int (z_I 0)), (2, .int (z_I q)), (0, .ref hM)] dX7_carryOut_130 (by decide) rfl ?_
                                    refine z_iinc C 2 [(6, .int (z_I (i + 1))), (1, .int (z_I (n2 + 0))), (3, .int (z_I 1)), (5, .int (z_I 1)), (4, .int (z_I 0)), (2, .int (z_I q)), (0, .ref hM)] dX7_carryOut_131 rfl (by decide) rfl ?_
                                    refine z_goto C 82 dX7_carryOut_134 (by decide) ?_
                                    refine z_lsub [(6, .int (z_I (i + 1))), (5, .int (z_I 1)), (4, .int (z_I 0)), (3, .int (z_I 1)), (2, .int (z_I q)), (1, .int (z_I (n2 + 0))), (0, .ref hM)] [0, 3, 4, 2, 5, 1, 6] rfl ?_
                                    exact ih82 (i + 1) 1 (n2 + 0) ((z_c1 ln sg c2 q).1) u2 (by first | assumption | omega) (z_c1_ok hsgn hqo2 hqt2 (by omega)).1 (z_c1_ok hsgn hqo2 hqt2 (by omega)).2 hp2.1 (by have h9 := z_ci9_s hii (by omega) hp2.2.1; first | (rw [if_pos hz2] at h9; exact h9) | (rw [if_neg hz2] at h9; exact h9)) (by omega)
                                · first
                                  | (exfalso; omega)
                                  | skip
                                    refine z_iconst C 1 dX7_carryOut_124 ?_
                                    refine z_goto C 129 dX7_carryOut_125 (by decide) ?_
                                    refine z_iadd C dX7_carryOut_129 ?_
                                    refine z_istore_n C [(1, .int (z_I (n2 + 1))), (3, .int (z_I 1)), (6, .int (z_I i)), (5, .int (z_I 1)), (4, .int (z_I 0)), (2, .int (z_I q)), (0, .ref hM)] dX7_carryOut_130 (by decide) rfl ?_
                                    refine z_iinc C 2 [(6, .int (z_I (i + 1))), (1, .int (z_I (n2 + 1))), (3, .int (z_I 1)), (5, .int (z_I 1)), (4, .int (z_I 0)), (2, .int (z_I q)), (0, .ref hM)] dX7_carryOut_131 rfl (by decide) rfl ?_
                                    refine z_goto C 82 dX7_carryOut_134 (by decide) ?_
                                    refine z_lsub [(6, .int (z_I (i + 1))), (5, .int (z_I 1)), (4, .int (z_I 0)), (3, .int (z_I 1)), (2, .int (z_I q)), (1, .int (z_I (n2 + 1))), (0, .ref hM)] [0, 3, 4, 2, 5, 1, 6] rfl ?_
                                    exact ih82 (i + 1) 1 (n2 + 1) ((z_c1 ln sg c2 q).1) u2 (by first | assumption | omega) (z_c1_ok hsgn hqo2 hqt2 (by omega)).1 (z_c1_ok hsgn hqo2 hqt2 (by omega)).2 hp2.1 (by have h9 := z_ci9_s hii (by omega) hp2.2.1; first | (rw [if_pos hz2] at h9; exact h9) | (rw [if_neg hz2] at h9; exact h9)) (by omega)
                  exact loop82 102 0 go n cz g (by first | assumption | omega) hqo hqt hqr (by rw [hgo1]; exact ⟨⟨by omega, Or.inr rfl⟩, Or.inl ⟨rfl, by rw [Int.sub_zero]⟩⟩) (by omega)
              · first
                | (exfalso; omega)
                | skip
                  refine z_aload_n C 4 dX7_carryOut_66 rfl ?_
                  refine z_iload_n C 2 dX7_carryOut_67 rfl ?_
                  refine z_iconst C 1 dX7_carryOut_68 ?_
                  refine z_iadd C dX7_carryOut_69 ?_
                  refine z_callVi C [0, 3] [(hM, .inr (7, [.ref aS, .ref aPa, .int (z_I (if kn = 6 then 6 else kn + 1)), .ref aSl, .ref aSv, .ref aPd, .int (z_I ln)])), (aS, z_ai cI 712 g), (aPa, z_ai cI 2136 (z_rem f pf kn)), (aPd, z_ai cI 80 pd)] [.int (z_I (q + 1))] [] (c_X7_numberAt l D cI cZ cO hM aS aPa aSl aSv aPd (if kn = 6 then 6 else kn + 1) ln sg pd (q + 1) (by first | assumption | omega) (by first | assumption | omega) (by first | assumption | omega) (by first | assumption | omega)) gX7_carryOut_X7_numberAt rfl zd_X7_numberAt rfl (by decide) rfl rfl rfl (by decide) rfl rfl rfl (Nat.le_of_ble_eq_true rfl) (by decide) dX7_carryOut_70 ?_
                  refine z_goto C 77 dX7_carryOut_73 (by decide) ?_
                  refine z_istore C [(5, .int (z_I (z_mn ln sg (q + 1)))), (4, .int (z_I 0)), (3, .int (z_I go)), (2, .int (z_I q)), (1, .int (z_I n)), (0, .ref hM)] dX7_carryOut_77 (by decide) rfl ?_
                  refine z_iconst C 0 dX7_carryOut_79 ?_
                  refine z_istore C [(6, .int (z_I 0)), (5, .int (z_I (z_mn ln sg (q + 1)))), (4, .int (z_I 0)), (3, .int (z_I go)), (2, .int (z_I q)), (1, .int (z_I n)), (0, .ref hM)] dX7_carryOut_80 (by decide) rfl ?_
                  have loop82 : ∀ (zn : Nat) (i : Int) (go2 : Int) (n2 : Int) (c2 : z_Ct) (g2 : Int → Int), 0 ≤ i ∧ (i ≤ z_oa ln sg q ∨ i = 0) → z_ok c2 → c2.1.1 ≤ 9999 → z_rel c2 0 g2 → z_ci9 ln sg cz n q (z_oa ln sg q) go2 c2 n2 i → (z_oa ln sg q - i + 1) < (zn : Int) → z_V p l e { frames := 6, cells := 0, slots := 0, locals := 140 } s m args below meth c D A 7 0 0 Q [(hM, .inr (7, [.ref aS, .ref aPa, .int (z_I (if kn = 6 then 6 else kn + 1)), .ref aSl, .ref aSv, .ref aPd, .int (z_I ln)])), (aS, z_ai cI 712 g2), (aPa, z_ai cI 2136 (z_rem f pf kn)), (aPd, z_ai cI 80 pd)] 82 [(6, .int (z_I i)), (5, .int (z_I (z_mn ln sg (q + 1)))), (4, .int (z_I 0)), (3, .int (z_I go2)), (2, .int (z_I q)), (1, .int (z_I n2)), (0, .ref hM)] [] := by
                    intro zn
                    induction zn with
                    | zero => intro i go2 n2 c2 g2 hi hqo2 hqt2 hqr2 hii hm82; exact absurd hm82 (by omega)
                    | succ zn82 ih82 =>
                      intro i go2 n2 c2 g2 hi hqo2 hqt2 hqr2 hii hm82
                      have hgo2 : go2 = 0 ∨ go2 = 1 := by rcases hii.2 with h9 | h9 <;> omega
                      refine z_iload C 0 dX7_carryOut_82 rfl ?_
                      refine z_iload C 1 dX7_carryOut_84 rfl ?_
                      refine z_icmp_ge C 137 dX7_carryOut_86 (by decide) (by omega) (by omega) (fun hc15 => ?_) (fun hc15 => ?_)
                      · skip
                        refine z_aload_n C 6 dX7_carryOut_137 rfl ?_
                        refine z_iload_n C 4 dX7_carryOut_138 rfl ?_
                        refine z_callVi C [0, 3] [(hM, .inr (7, [.ref aS, .ref aPa, .int (z_I (if kn = 6 then 6 else kn + 1)), .ref aSl, .ref aSv, .ref aPd, .int (z_I ln)])), (aS, z_ai cI 712 g2), (aPa, z_ai cI 2136 (z_rem f pf kn)), (aPd, z_ai cI 80 pd)] [.int (z_I q)] [] (c_X7_orderEnd l D cI cZ cO hM aS aPa aSl aSv aPd (if kn = 6 then 6 else kn + 1) ln sg pd q (by first | assumption | omega) (by first | assumption | omega) (by first | assumption | omega) (by first | assumption | omega)) gX7_carryOut_X7_orderEnd rfl zd_X7_orderEnd rfl (by decide) rfl rfl rfl (by decide) rfl rfl rfl (Nat.le_of_ble_eq_true rfl) (by decide) dX7_carryOut_139 ?_
                        refine z_iconst C 1 dX7_carryOut_142 ?_
                        refine z_iadd C dX7_carryOut_143 ?_
                        refine z_istore_n C [(2, .int (z_I ((z_oe ln sg q) + 1))), (6, .int (z_I i)), (5, .int (z_I (z_mn ln sg (q + 1)))), (4, .int (z_I 0)), (3, .int (z_I go2)), (1, .int (z_I n2)), (0, .ref hM)] dX7_carryOut_144 (by decide) rfl ?_
                        refine z_goto C 22 dX7_carryOut_145 (by decide) ?_
                        refine z_lsub [(3, .int (z_I go2)), (2, .int (z_I ((z_oe ln sg q) + 1))), (1, .int (z_I n2)), (0, .ref hM)] [4, 0, 5, 6] rfl ?_
                        exact ih22 n2 ((z_oe ln sg q) + 1) go2 c2 g2 (by first | assumption | omega) hqo2 hqt2 hqr2 (z_cs9_n hcs (by omega) hii (by omega)) (by omega)
                      · skip
                        refine z_iload_n C 3 dX7_carryOut_89 rfl ?_
                        refine z_if_eq C 137 dX7_carryOut_90 (by decide) (by omega) (fun hc16 => ?_) (fun hc16 => ?_)
                        · skip
                          refine z_aload_n C 6 dX7_carryOut_137 rfl ?_
                          refine z_iload_n C 4 dX7_carryOut_138 rfl ?_
                          refine z_callVi C [0, 3] [(hM, .inr (7, [.ref aS, .ref aPa, .int (z_I (if kn = 6 then 6 else kn + 1)), .ref aSl, .ref aSv, .ref aPd, .int (z_I ln)])), (aS, z_ai cI 712 g2), (aPa, z_ai cI 2136 (z_rem f pf kn)), (aPd, z_ai cI 80 pd)] [.int (z_I q)] [] (c_X7_orderEnd l D cI cZ cO hM aS aPa aSl aSv aPd (if kn = 6 then 6 else kn + 1) ln sg pd q (by first | assumption | omega) (by first | assumption | omega) (by first | assumption | omega) (by first | assumption | omega)) gX7_carryOut_X7_orderEnd rfl zd_X7_orderEnd rfl (by decide) rfl rfl rfl (by decide) rfl rfl rfl (Nat.le_of_ble_eq_true rfl) (by decide) dX7_carryOut_139 ?_
                          refine z_iconst C 1 dX7_carryOut_142 ?_
                          refine z_iadd C dX7_carryOut_143 ?_
                          refine z_istore_n C [(2, .int (z_I ((z_oe ln sg q) + 1))), (6, .int (z_I i)), (5, .int (z_I (z_mn ln sg (q + 1)))), (4, .int (z_I 0)), (3, .int (z_I go2)), (1, .int (z_I n2)), (0, .ref hM)] dX7_carryOut_144 (by decide) rfl ?_
                          refine z_goto C 22 dX7_carryOut_145 (by decide) ?_
                          refine z_lsub [(3, .int (z_I go2)), (2, .int (z_I ((z_oe ln sg q) + 1))), (1, .int (z_I n2)), (0, .ref hM)] [4, 0, 5, 6] rfl ?_
                          exact ih22 n2 ((z_oe ln sg q) + 1) go2 c2 g2 (by first | assumption | omega) hqo2 hqt2 hqr2 (z_cs9_n hcs (by omega) hii (by omega)) (by omega)
                        · skip
                          have hg21 : go2 = 1 := by omega
                          rw [hg21] at hii
                          refine z_iload C 2 dX7_carryOut_93 rfl ?_
                          refine z_if_eq C 105 dX7_carryOut_95 (by decide) (by omega) (fun hc17 => ?_) (fun hc17 => ?_)
                          · first
                            | (exfalso; omega)
                            | skip
                              refine z_aload_n C 6 dX7_carryOut_105 rfl ?_
                              refine z_iload_n C 4 dX7_carryOut_106 rfl ?_
                              refine z_callEi C [0, 1, 3] (fun u2 => [(hM, .inr (7, [.ref aS, .ref aPa, .int (z_I (if kn = 6 then 6 else kn + 1)), .ref aSl, .ref aSv, .ref aPd, .int (z_I ln)])), (aS, z_ai cI 712 u2), (aPa, z_ai cI 2136 (z_rem f pf kn)), (aPd, z_ai cI 80 pd)]) [.int (z_I q)] [] (c_X7_carries l D cI cZ cO hM aS aPa aSl aSv aPd (if kn = 6 then 6 else kn + 1) ln g2 sg pd c2 q hqr2 hqo2 hqt2 (by first | assumption | omega) (by first | assumption | omega) (by first | assumption | omega) (by first | assumption | omega) hst9 (by omega)) gX7_carryOut_X7_carries rfl zd_X7_carries rfl (by decide) rfl rfl rfl (by decide) (fun _ => rfl) (fun _ => rfl) rfl (Nat.le_of_ble_eq_true rfl) (by decide) dX7_carryOut_107 (fun u2 ri2 hp2 => ?_)
                              refine z_if_ne C 117 dX7_carryOut_110 (by decide) (by omega) (fun hc18 => ?_) (fun hc18 => ?_)
                              · skip
                                have hz2 : ¬ ri2 = 0 := hc18
                                refine z_iconst C 0 dX7_carryOut_117 ?_
                                refine z_istore_n C [(3, .int (z_I 0)), (6, .int (z_I i)), (5, .int (z_I (z_mn ln sg (q + 1)))), (4, .int (z_I 0)), (2, .int (z_I q)), (1, .int (z_I n2)), (0, .ref hM)] dX7_carryOut_118 (by decide) rfl ?_
                                refine z_iload_n C 5 dX7_carryOut_119 rfl ?_
                                refine z_iload_n C 0 dX7_carryOut_120 rfl ?_
                                refine z_if_eq C 128 dX7_carryOut_121 (by decide) (by omega) (fun hc19 => ?_) (fun hc19 => ?_)
                                · first
                                  | (exfalso; omega)
                                  | skip
                                    refine z_iconst C 0 dX7_carryOut_128 ?_
                                    refine z_iadd C dX7_carryOut_129 ?_
                                    refine z_istore_n C [(1, .int (z_I (n2 + 0))), (3, .int (z_I 0)), (6, .int (z_I i)), (5, .int (z_I (z_mn ln sg (q + 1)))), (4, .int (z_I 0)), (2, .int (z_I q)), (0, .ref hM)] dX7_carryOut_130 (by decide) rfl ?_
                                    refine z_iinc C 2 [(6, .int (z_I (i + 1))), (1, .int (z_I (n2 + 0))), (3, .int (z_I 0)), (5, .int (z_I (z_mn ln sg (q + 1)))), (4, .int (z_I 0)), (2, .int (z_I q)), (0, .ref hM)] dX7_carryOut_131 rfl (by decide) rfl ?_
                                    refine z_goto C 82 dX7_carryOut_134 (by decide) ?_
                                    refine z_lsub [(6, .int (z_I (i + 1))), (5, .int (z_I (z_mn ln sg (q + 1)))), (4, .int (z_I 0)), (3, .int (z_I 0)), (2, .int (z_I q)), (1, .int (z_I (n2 + 0))), (0, .ref hM)] [0, 3, 4, 2, 5, 1, 6] rfl ?_
                                    exact ih82 (i + 1) 0 (n2 + 0) ((z_c1 ln sg c2 q).1) u2 (by first | assumption | omega) (z_c1_ok hsgn hqo2 hqt2 (by omega)).1 (z_c1_ok hsgn hqo2 hqt2 (by omega)).2 hp2.1 (by have h9 := z_ci9_s hii (by omega) hp2.2.1; first | (rw [if_pos hz2] at h9; exact h9) | (rw [if_neg hz2] at h9; exact h9)) (by omega)
                                · first
                                  | (exfalso; omega)
                                  | skip
                                    refine z_iconst C 1 dX7_carryOut_124 ?_
                                    refine z_goto C 129 dX7_carryOut_125 (by decide) ?_
                                    refine z_iadd C dX7_carryOut_129 ?_
                                    refine z_istore_n C [(1, .int (z_I (n2 + 1))), (3, .int (z_I 0)), (6, .int (z_I i)), (5, .int (z_I (z_mn ln sg (q + 1)))), (4, .int (z_I 0)), (2, .int (z_I q)), (0, .ref hM)] dX7_carryOut_130 (by decide) rfl ?_
                                    refine z_iinc C 2 [(6, .int (z_I (i + 1))), (1, .int (z_I (n2 + 1))), (3, .int (z_I 0)), (5, .int (z_I (z_mn ln sg (q + 1)))), (4, .int (z_I 0)), (2, .int (z_I q)), (0, .ref hM)] dX7_carryOut_131 rfl (by decide) rfl ?_
                                    refine z_goto C 82 dX7_carryOut_134 (by decide) ?_
                                    refine z_lsub [(6, .int (z_I (i + 1))), (5, .int (z_I (z_mn ln sg (q + 1)))), (4, .int (z_I 0)), (3, .int (z_I 0)), (2, .int (z_I q)), (1, .int (z_I (n2 + 1))), (0, .ref hM)] [0, 3, 4, 2, 5, 1, 6] rfl ?_
                                    exact ih82 (i + 1) 0 (n2 + 1) ((z_c1 ln sg c2 q).1) u2 (by first | assumption | omega) (z_c1_ok hsgn hqo2 hqt2 (by omega)).1 (z_c1_ok hsgn hqo2 hqt2 (by omega)).2 hp2.1 (by have h9 := z_ci9_s hii (by omega) hp2.2.1; first | (rw [if_pos hz2] at h9; exact h9) | (rw [if_neg hz2] at h9; exact h9)) (by omega)
                              · skip
                                have hz2 : ri2 = 0 := by omega
                                refine z_iconst C 1 dX7_carryOut_113 ?_
                                refine z_goto C 118 dX7_carryOut_114 (by decide) ?_
                                refine z_istore_n C [(3, .int (z_I 1)), (6, .int (z_I i)), (5, .int (z_I (z_mn ln sg (q + 1)))), (4, .int (z_I 0)), (2, .int (z_I q)), (1, .int (z_I n2)), (0, .ref hM)] dX7_carryOut_118 (by decide) rfl ?_
                                refine z_iload_n C 5 dX7_carryOut_119 rfl ?_
                                refine z_iload_n C 0 dX7_carryOut_120 rfl ?_
                                refine z_if_eq C 128 dX7_carryOut_121 (by decide) (by omega) (fun hc20 => ?_) (fun hc20 => ?_)
                                · first
                                  | (exfalso; omega)
                                  | skip
                                    refine z_iconst C 0 dX7_carryOut_128 ?_
                                    refine z_iadd C dX7_carryOut_129 ?_
                                    refine z_istore_n C [(1, .int (z_I (n2 + 0))), (3, .int (z_I 1)), (6, .int (z_I i)), (5, .int (z_I (z_mn ln sg (q + 1)))), (4, .int (z_I 0)), (2, .int (z_I q)), (0, .ref hM)] dX7_carryOut_130 (by decide) rfl ?_
                                    refine z_iinc C 2 [(6, .int (z_I (i + 1))), (1, .int (z_I (n2 + 0))), (3, .int (z_I 1)), (5, .int (z_I (z_mn ln sg (q + 1)))), (4, .int (z_I 0)), (2, .int (z_I q)), (0, .ref hM)] dX7_carryOut_131 rfl (by decide) rfl ?_
                                    refine z_goto C 82 dX7_carryOut_134 (by decide) ?_
                                    refine z_lsub [(6, .int (z_I (i + 1))), (5, .int (z_I (z_mn ln sg (q + 1)))), (4, .int (z_I 0)), (3, .int (z_I 1)), (2, .int (z_I q)), (1, .int (z_I (n2 + 0))), (0, .ref hM)] [0, 3, 4, 2, 5, 1, 6] rfl ?_
                                    exact ih82 (i + 1) 1 (n2 + 0) ((z_c1 ln sg c2 q).1) u2 (by first | assumption | omega) (z_c1_ok hsgn hqo2 hqt2 (by omega)).1 (z_c1_ok hsgn hqo2 hqt2 (by omega)).2 hp2.1 (by have h9 := z_ci9_s hii (by omega) hp2.2.1; first | (rw [if_pos hz2] at h9; exact h9) | (rw [if_neg hz2] at h9; exact h9)) (by omega)
                                · first
                                  | (exfalso; omega)
                                  | skip
                                    refine z_iconst C 1 dX7_carryOut_124 ?_
                                    refine z_goto C 129 dX7_carryOut_125 (by decide) ?_
                                    refine z_iadd C dX7_carryOut_129 ?_
                                    refine z_istore_n C [(1, .int (z_I (n2 + 1))), (3, .int (z_I 1)), (6, .int (z_I i)), (5, .int (z_I (z_mn ln sg (q + 1)))), (4, .int (z_I 0)), (2, .int (z_I q)), (0, .ref hM)] dX7_carryOut_130 (by decide) rfl ?_
                                    refine z_iinc C 2 [(6, .int (z_I (i + 1))), (1, .int (z_I (n2 + 1))), (3, .int (z_I 1)), (5, .int (z_I (z_mn ln sg (q + 1)))), (4, .int (z_I 0)), (2, .int (z_I q)), (0, .ref hM)] dX7_carryOut_131 rfl (by decide) rfl ?_
                                    refine z_goto C 82 dX7_carryOut_134 (by decide) ?_
                                    refine z_lsub [(6, .int (z_I (i + 1))), (5, .int (z_I (z_mn ln sg (q + 1)))), (4, .int (z_I 0)), (3, .int (z_I 1)), (2, .int (z_I q)), (1, .int (z_I (n2 + 1))), (0, .ref hM)] [0, 3, 4, 2, 5, 1, 6] rfl ?_
                                    exact ih82 (i + 1) 1 (n2 + 1) ((z_c1 ln sg c2 q).1) u2 (by first | assumption | omega) (z_c1_ok hsgn hqo2 hqt2 (by omega)).1 (z_c1_ok hsgn hqo2 hqt2 (by omega)).2 hp2.1 (by have h9 := z_ci9_s hii (by omega) hp2.2.1; first | (rw [if_pos hz2] at h9; exact h9) | (rw [if_neg hz2] at h9; exact h9)) (by omega)
                          · first
                            | (exfalso; omega)
                            | skip
                              refine z_aload_n C 6 dX7_carryOut_98 rfl ?_
                              refine z_callEi C [0, 1] (fun u2 => [(hM, .inr (7, [.ref aS, .ref aPa, .int (z_I (if kn = 6 then 6 else kn + 1)), .ref aSl, .ref aSv, .ref aPd, .int (z_I ln)])), (aS, z_ai cI 712 u2), (aPa, z_ai cI 2136 (z_rem f pf kn)), (aPd, z_ai cI 80 pd)]) [] [] (c_X7_ticks l D cI cZ cO hM aS aPa aSl aSv aPd (if kn = 6 then 6 else kn + 1) ln g2 c2 hqr2 hqo2 hqt2) gX7_carryOut_X7_ticks rfl zd_X7_ticks rfl (by decide) rfl rfl rfl (by decide) (fun _ => rfl) (fun _ => rfl) rfl (Nat.le_of_ble_eq_true rfl) (by decide) dX7_carryOut_99 (fun u2 ri2 hp2 => ?_)
                              rw [← hrow c2] at hp2
                              refine z_goto C 110 dX7_carryOut_102 (by decide) ?_
                              refine z_if_ne C 117 dX7_carryOut_110 (by decide) (by omega) (fun hc21 => ?_) (fun hc21 => ?_)
                              · skip
                                have hz2 : ¬ ri2 = 0 := hc21
                                refine z_iconst C 0 dX7_carryOut_117 ?_
                                refine z_istore_n C [(3, .int (z_I 0)), (6, .int (z_I i)), (5, .int (z_I (z_mn ln sg (q + 1)))), (4, .int (z_I 0)), (2, .int (z_I q)), (1, .int (z_I n2)), (0, .ref hM)] dX7_carryOut_118 (by decide) rfl ?_
                                refine z_iload_n C 5 dX7_carryOut_119 rfl ?_
                                refine z_iload_n C 0 dX7_carryOut_120 rfl ?_
                                refine z_if_eq C 128 dX7_carryOut_121 (by decide) (by omega) (fun hc22 => ?_) (fun hc22 => ?_)
                                · first
                                  | (exfalso; omega)
                                  | skip
                                    refine z_iconst C 0 dX7_carryOut_128 ?_
                                    refine z_iadd C dX7_carryOut_129 ?_
                                    refine z_istore_n C [(1, .int (z_I (n2 + 0))), (3, .int (z_I 0)), (6, .int (z_I i)), (5, .int (z_I (z_mn ln sg (q + 1)))), (4, .int (z_I 0)), (2, .int (z_I q)), (0, .ref hM)] dX7_carryOut_130 (by decide) rfl ?_
                                    refine z_iinc C 2 [(6, .int (z_I (i + 1))), (1, .int (z_I (n2 + 0))), (3, .int (z_I 0)), (5, .int (z_I (z_mn ln sg (q + 1)))), (4, .int (z_I 0)), (2, .int (z_I q)), (0, .ref hM)] dX7_carryOut_131 rfl (by decide) rfl ?_
                                    refine z_goto C 82 dX7_carryOut_134 (by decide) ?_
                                    refine z_lsub [(6, .int (z_I (i + 1))), (5, .int (z_I (z_mn ln sg (q + 1)))), (4, .int (z_I 0)), (3, .int (z_I 0)), (2, .int (z_I q)), (1, .int (z_I (n2 + 0))), (0, .ref hM)] [0, 3, 4, 2, 5, 1, 6] rfl ?_
                                    exact ih82 (i + 1) 0 (n2 + 0) ((z_c1 ln sg c2 q).1) u2 (by first | assumption | omega) (z_c1_ok hsgn hqo2 hqt2 (by omega)).1 (z_c1_ok hsgn hqo2 hqt2 (by omega)).2 hp2.1 (by have h9 := z_ci9_s hii (by omega) hp2.2.1; first | (rw [if_pos hz2] at h9; exact h9) | (rw [if_neg hz2] at h9; exact h9)) (by omega)
                                · first
                                  | (exfalso; omega)
                                  | skip
                                    refine z_iconst C 1 dX7_carryOut_124 ?_
                                    refine z_goto C 129 dX7_carryOut_125 (by decide) ?_
                                    refine z_iadd C dX7_carryOut_129 ?_
                                    refine z_istore_n C [(1, .int (z_I (n2 + 1))), (3, .int (z_I 0)), (6, .int (z_I i)), (5, .int (z_I (z_mn ln sg (q + 1)))), (4, .int (z_I 0)), (2, .int (z_I q)), (0, .ref hM)] dX7_carryOut_130 (by decide) rfl ?_
                                    refine z_iinc C 2 [(6, .int (z_I (i + 1))), (1, .int (z_I (n2 + 1))), (3, .int (z_I 0)), (5, .int (z_I (z_mn ln sg (q + 1)))), (4, .int (z_I 0)), (2, .int (z_I q)), (0, .ref hM)] dX7_carryOut_131 rfl (by decide) rfl ?_
                                    refine z_goto C 82 dX7_carryOut_134 (by decide) ?_
                                    refine z_lsub [(6, .int (z_I (i + 1))), (5, .int (z_I (z_mn ln sg (q + 1)))), (4, .int (z_I 0)), (3, .int (z_I 0)), (2, .int (z_I q)), (1, .int (z_I (n2 + 1))), (0, .ref hM)] [0, 3, 4, 2, 5, 1, 6] rfl ?_
                                    exact ih82 (i + 1) 0 (n2 + 1) ((z_c1 ln sg c2 q).1) u2 (by first | assumption | omega) (z_c1_ok hsgn hqo2 hqt2 (by omega)).1 (z_c1_ok hsgn hqo2 hqt2 (by omega)).2 hp2.1 (by have h9 := z_ci9_s hii (by omega) hp2.2.1; first | (rw [if_pos hz2] at h9; exact h9) | (rw [if_neg hz2] at h9; exact h9)) (by omega)
                              · skip
                                have hz2 : ri2 = 0 := by omega
                                refine z_iconst C 1 dX7_carryOut_113 ?_
                                refine z_goto C 118 dX7_carryOut_114 (by decide) ?_
                                refine z_istore_n C [(3, .int (z_I 1)), (6, .int (z_I i)), (5, .int (z_I (z_mn ln sg (q + 1)))), (4, .int (z_I 0)), (2, .int (z_I q)), (1, .int (z_I n2)), (0, .ref hM)] dX7_carryOut_118 (by decide) rfl ?_
                                refine z_iload_n C 5 dX7_carryOut_119 rfl ?_
                                refine z_iload_n C 0 dX7_carryOut_120 rfl ?_
                                refine z_if_eq C 128 dX7_carryOut_121 (by decide) (by omega) (fun hc23 => ?_) (fun hc23 => ?_)
                                · first
                                  | (exfalso; omega)
                                  | skip
                                    refine z_iconst C 0 dX7_carryOut_128 ?_
                                    refine z_iadd C dX7_carryOut_129 ?_
                                    refine z_istore_n C [(1, .int (z_I (n2 + 0))), (3, .int (z_I 1)), (6, .int (z_I i)), (5, .int (z_I (z_mn ln sg (q + 1)))), (4, .int (z_I 0)), (2, .int (z_I q)), (0, .ref hM)] dX7_carryOut_130 (by decide) rfl ?_
                                    refine z_iinc C 2 [(6, .int (z_I (i + 1))), (1, .int (z_I (n2 + 0))), (3, .int (z_I 1)), (5, .int (z_I (z_mn ln sg (q + 1)))), (4, .int (z_I 0)), (2, .int (z_I q)), (0, .ref hM)] dX7_carryOut_131 rfl (by decide) rfl ?_
                                    refine z_goto C 82 dX7_carryOut_134 (by decide) ?_
                                    refine z_lsub [(6, .int (z_I (i + 1))), (5, .int (z_I (z_mn ln sg (q + 1)))), (4, .int (z_I 0)), (3, .int (z_I 1)), (2, .int (z_I q)), (1, .int (z_I (n2 + 0))), (0, .ref hM)] [0, 3, 4, 2, 5, 1, 6] rfl ?_
                                    exact ih82 (i + 1) 1 (n2 + 0) ((z_c1 ln sg c2 q).1) u2 (by first | assumption | omega) (z_c1_ok hsgn hqo2 hqt2 (by omega)).1 (z_c1_ok hsgn hqo2 hqt2 (by omega)).2 hp2.1 (by have h9 := z_ci9_s hii (by omega) hp2.2.1; first | (rw [if_pos hz2] at h9; exact h9) | (rw [if_neg hz2] at h9; exact h9)) (by omega)
                                · first
                                  | (exfalso; omega)
                                  | skip
                                    refine z_iconst C 1 dX7_carryOut_124 ?_
                                    refine z_goto C 129 dX7_carryOut_125 (by decide) ?_
                                    refine z_iadd C dX7_carryOut_129 ?_
                                    refine z_istore_n C [(1, .int (z_I (n2 + 1))), (3, .int (z_I 1)), (6, .int (z_I i)), (5, .int (z_I (z_mn ln sg (q + 1)))), (4, .int (z_I 0)), (2, .int (z_I q)), (0, .ref hM)] dX7_carryOut_130 (by decide) rfl ?_
                                    refine z_iinc C 2 [(6, .int (z_I (i + 1))), (1, .int (z_I (n2 + 1))), (3, .int (z_I 1)), (5, .int (z_I (z_mn ln sg (q + 1)))), (4, .int (z_I 0)), (2, .int (z_I q)), (0, .ref hM)] dX7_carryOut_131 rfl (by decide) rfl ?_
                                    refine z_goto C 82 dX7_carryOut_134 (by decide) ?_
                                    refine z_lsub [(6, .int (z_I (i + 1))), (5, .int (z_I (z_mn ln sg (q + 1)))), (4, .int (z_I 0)), (3, .int (z_I 1)), (2, .int (z_I q)), (1, .int (z_I (n2 + 1))), (0, .ref hM)] [0, 3, 4, 2, 5, 1, 6] rfl ?_
                                    exact ih82 (i + 1) 1 (n2 + 1) ((z_c1 ln sg c2 q).1) u2 (by first | assumption | omega) (z_c1_ok hsgn hqo2 hqt2 (by omega)).1 (z_c1_ok hsgn hqo2 hqt2 (by omega)).2 hp2.1 (by have h9 := z_ci9_s hii (by omega) hp2.2.1; first | (rw [if_pos hz2] at h9; exact h9) | (rw [if_neg hz2] at h9; exact h9)) (by omega)
                  exact loop82 102 0 go n cz g (by first | assumption | omega) hqo hqt hqr (by rw [hgo1]; exact ⟨⟨by omega, Or.inr rfl⟩, Or.inl ⟨rfl, by rw [Int.sub_zero]⟩⟩) (by omega)
            · skip
              refine z_aload_n C 3 dX7_carryOut_44 rfl ?_
              refine z_iload_n C 1 dX7_carryOut_45 rfl ?_
              refine z_iconst C 1 dX7_carryOut_46 ?_
              refine z_iadd C dX7_carryOut_47 ?_
              refine z_callVi C [0, 3] [(hM, .inr (7, [.ref aS, .ref aPa, .int (z_I (if kn = 6 then 6 else kn + 1)), .ref aSl, .ref aSv, .ref aPd, .int (z_I ln)])), (aS, z_ai cI 712 g), (aPa, z_ai cI 2136 (z_rem f pf kn)), (aPd, z_ai cI 80 pd)] [.int (z_I (q + 1))] [] (c_X7_digit l D cI cZ cO hM aS aPa aSl aSv aPd (if kn = 6 then 6 else kn + 1) ln sg pd (q + 1) (by first | assumption | omega) (by first | assumption | omega) (by first | assumption | omega) (by first | assumption | omega)) gX7_carryOut_X7_digit rfl zd_X7_digit rfl (by decide) rfl rfl rfl (by decide) rfl rfl rfl (Nat.le_of_ble_eq_true rfl) (by decide) dX7_carryOut_48 ?_
              refine z_if_lt C 58 dX7_carryOut_51 (by decide) (by omega) (fun hc24 => ?_) (fun hc24 => ?_)
              · skip
                have hoaM : z_oa ln sg q = 1 := by rw [hoa, if_neg (by omega)]
                refine z_iconst C 0 dX7_carryOut_58 ?_
                refine z_istore C [(4, .int (z_I 0)), (3, .int (z_I go)), (2, .int (z_I q)), (1, .int (z_I n)), (0, .ref hM)] dX7_carryOut_59 (by decide) rfl ?_
                refine z_iload C 0 dX7_carryOut_61 rfl ?_
                refine z_if_eq C 76 dX7_carryOut_63 (by decide) (by omega) (fun hc25 => ?_) (fun hc25 => ?_)
                · first
                  | (exfalso; omega)
                  | skip
                    refine z_iconst C 1 dX7_carryOut_76 ?_
                    refine z_istore C [(5, .int (z_I 1)), (4, .int (z_I 0)), (3, .int (z_I go)), (2, .int (z_I q)), (1, .int (z_I n)), (0, .ref hM)] dX7_carryOut_77 (by decide) rfl ?_
                    refine z_iconst C 0 dX7_carryOut_79 ?_
                    refine z_istore C [(6, .int (z_I 0)), (5, .int (z_I 1)), (4, .int (z_I 0)), (3, .int (z_I go)), (2, .int (z_I q)), (1, .int (z_I n)), (0, .ref hM)] dX7_carryOut_80 (by decide) rfl ?_
                    have loop82 : ∀ (zn : Nat) (i : Int) (go2 : Int) (n2 : Int) (c2 : z_Ct) (g2 : Int → Int), 0 ≤ i ∧ (i ≤ z_oa ln sg q ∨ i = 0) → z_ok c2 → c2.1.1 ≤ 9999 → z_rel c2 0 g2 → z_ci9 ln sg cz n q (z_oa ln sg q) go2 c2 n2 i → (z_oa ln sg q - i + 1) < (zn : Int) → z_V p l e { frames := 6, cells := 0, slots := 0, locals := 140 } s m args below meth c D A 7 0 0 Q [(hM, .inr (7, [.ref aS, .ref aPa, .int (z_I (if kn = 6 then 6 else kn + 1)), .ref aSl, .ref aSv, .ref aPd, .int (z_I ln)])), (aS, z_ai cI 712 g2), (aPa, z_ai cI 2136 (z_rem f pf kn)), (aPd, z_ai cI 80 pd)] 82 [(6, .int (z_I i)), (5, .int (z_I 1)), (4, .int (z_I 0)), (3, .int (z_I go2)), (2, .int (z_I q)), (1, .int (z_I n2)), (0, .ref hM)] [] := by
                      intro zn
                      induction zn with
                      | zero => intro i go2 n2 c2 g2 hi hqo2 hqt2 hqr2 hii hm82; exact absurd hm82 (by omega)
                      | succ zn82 ih82 =>
                        intro i go2 n2 c2 g2 hi hqo2 hqt2 hqr2 hii hm82
                        have hgo2 : go2 = 0 ∨ go2 = 1 := by rcases hii.2 with h9 | h9 <;> omega
                        refine z_iload C 0 dX7_carryOut_82 rfl ?_
                        refine z_iload C 1 dX7_carryOut_84 rfl ?_
                        refine z_icmp_ge C 137 dX7_carryOut_86 (by decide) (by omega) (by omega) (fun hc26 => ?_) (fun hc26 => ?_)
                        · skip
                          refine z_aload_n C 6 dX7_carryOut_137 rfl ?_
                          refine z_iload_n C 4 dX7_carryOut_138 rfl ?_
                          refine z_callVi C [0, 3] [(hM, .inr (7, [.ref aS, .ref aPa, .int (z_I (if kn = 6 then 6 else kn + 1)), .ref aSl, .ref aSv, .ref aPd, .int (z_I ln)])), (aS, z_ai cI 712 g2), (aPa, z_ai cI 2136 (z_rem f pf kn)), (aPd, z_ai cI 80 pd)] [.int (z_I q)] [] (c_X7_orderEnd l D cI cZ cO hM aS aPa aSl aSv aPd (if kn = 6 then 6 else kn + 1) ln sg pd q (by first | assumption | omega) (by first | assumption | omega) (by first | assumption | omega) (by first | assumption | omega)) gX7_carryOut_X7_orderEnd rfl zd_X7_orderEnd rfl (by decide) rfl rfl rfl (by decide) rfl rfl rfl (Nat.le_of_ble_eq_true rfl) (by decide) dX7_carryOut_139 ?_
                          refine z_iconst C 1 dX7_carryOut_142 ?_
                          refine z_iadd C dX7_carryOut_143 ?_
                          refine z_istore_n C [(2, .int (z_I ((z_oe ln sg q) + 1))), (6, .int (z_I i)), (5, .int (z_I 1)), (4, .int (z_I 0)), (3, .int (z_I go2)), (1, .int (z_I n2)), (0, .ref hM)] dX7_carryOut_144 (by decide) rfl ?_
                          refine z_goto C 22 dX7_carryOut_145 (by decide) ?_
                          refine z_lsub [(3, .int (z_I go2)), (2, .int (z_I ((z_oe ln sg q) + 1))), (1, .int (z_I n2)), (0, .ref hM)] [4, 0, 5, 6] rfl ?_
                          exact ih22 n2 ((z_oe ln sg q) + 1) go2 c2 g2 (by first | assumption | omega) hqo2 hqt2 hqr2 (z_cs9_n hcs (by omega) hii (by omega)) (by omega)
                        · skip
                          refine z_iload_n C 3 dX7_carryOut_89 rfl ?_
                          refine z_if_eq C 137 dX7_carryOut_90 (by decide) (by omega) (fun hc27 => ?_) (fun hc27 => ?_)
                          · skip
                            refine z_aload_n C 6 dX7_carryOut_137 rfl ?_
                            refine z_iload_n C 4 dX7_carryOut_138 rfl ?_
                            refine z_callVi C [0, 3] [(hM, .inr (7, [.ref aS, .ref aPa, .int (z_I (if kn = 6 then 6 else kn + 1)), .ref aSl, .ref aSv, .ref aPd, .int (z_I ln)])), (aS, z_ai cI 712 g2), (aPa, z_ai cI 2136 (z_rem f pf kn)), (aPd, z_ai cI 80 pd)] [.int (z_I q)] [] (c_X7_orderEnd l D cI cZ cO hM aS aPa aSl aSv aPd (if kn = 6 then 6 else kn + 1) ln sg pd q (by first | assumption | omega) (by first | assumption | omega) (by first | assumption | omega) (by first | assumption | omega)) gX7_carryOut_X7_orderEnd rfl zd_X7_orderEnd rfl (by decide) rfl rfl rfl (by decide) rfl rfl rfl (Nat.le_of_ble_eq_true rfl) (by decide) dX7_carryOut_139 ?_
                            refine z_iconst C 1 dX7_carryOut_142 ?_
                            refine z_iadd C dX7_carryOut_143 ?_
                            refine z_istore_n C [(2, .int (z_I ((z_oe ln sg q) + 1))), (6, .int (z_I i)), (5, .int (z_I 1)), (4, .int (z_I 0)), (3, .int (z_I go2)), (1, .int (z_I n2)), (0, .ref hM)] dX7_carryOut_144 (by decide) rfl ?_
                            refine z_goto C 22 dX7_carryOut_145 (by decide) ?_
                            refine z_lsub [(3, .int (z_I go2)), (2, .int (z_I ((z_oe ln sg q) + 1))), (1, .int (z_I n2)), (0, .ref hM)] [4, 0, 5, 6] rfl ?_
                            exact ih22 n2 ((z_oe ln sg q) + 1) go2 c2 g2 (by first | assumption | omega) hqo2 hqt2 hqr2 (z_cs9_n hcs (by omega) hii (by omega)) (by omega)
                          · skip
                            have hg21 : go2 = 1 := by omega
                            rw [hg21] at hii
                            refine z_iload C 2 dX7_carryOut_93 rfl ?_
                            refine z_if_eq C 105 dX7_carryOut_95 (by decide) (by omega) (fun hc28 => ?_) (fun hc28 => ?_)
                            · first
                              | (exfalso; omega)
                              | skip
                                refine z_aload_n C 6 dX7_carryOut_105 rfl ?_
                                refine z_iload_n C 4 dX7_carryOut_106 rfl ?_
                                refine z_callEi C [0, 1, 3] (fun u2 => [(hM, .inr (7, [.ref aS, .ref aPa, .int (z_I (if kn = 6 then 6 else kn + 1)), .ref aSl, .ref aSv, .ref aPd, .int (z_I ln)])), (aS, z_ai cI 712 u2), (aPa, z_ai cI 2136 (z_rem f pf kn)), (aPd, z_ai cI 80 pd)]) [.int (z_I q)] [] (c_X7_carries l D cI cZ cO hM aS aPa aSl aSv aPd (if kn = 6 then 6 else kn + 1) ln g2 sg pd c2 q hqr2 hqo2 hqt2 (by first | assumption | omega) (by first | assumption | omega) (by first | assumption | omega) (by first | assumption | omega) hst9 (by omega)) gX7_carryOut_X7_carries rfl zd_X7_carries rfl (by decide) rfl rfl rfl (by decide) (fun _ => rfl) (fun _ => rfl) rfl (Nat.le_of_ble_eq_true rfl) (by decide) dX7_carryOut_107 (fun u2 ri2 hp2 => ?_)
                                refine z_if_ne C 117 dX7_carryOut_110 (by decide) (by omega) (fun hc29 => ?_) (fun hc29 => ?_)
                                · skip
                                  have hz2 : ¬ ri2 = 0 := hc29
                                  refine z_iconst C 0 dX7_carryOut_117 ?_
                                  refine z_istore_n C [(3, .int (z_I 0)), (6, .int (z_I i)), (5, .int (z_I 1)), (4, .int (z_I 0)), (2, .int (z_I q)), (1, .int (z_I n2)), (0, .ref hM)] dX7_carryOut_118 (by decide) rfl ?_
                                  refine z_iload_n C 5 dX7_carryOut_119 rfl ?_
                                  refine z_iload_n C 0 dX7_carryOut_120 rfl ?_
                                  refine z_if_eq C 128 dX7_carryOut_121 (by decide) (by omega) (fun hc30 => ?_) (fun hc30 => ?_)
                                  · first
                                    | (exfalso; omega)
                                    | skip
                                      refine z_iconst C 0 dX7_carryOut_128 ?_
                                      refine z_iadd C dX7_carryOut_129 ?_
                                      refine z_istore_n C [(1, .int (z_I (n2 + 0))), (3, .int (z_I 0)), (6, .int (z_I i)), (5, .int (z_I 1)), (4, .int (z_I 0)), (2, .int (z_I q)), (0, .ref hM)] dX7_carryOut_130 (by decide) rfl ?_
                                      refine z_iinc C 2 [(6, .int (z_I (i + 1))), (1, .int (z_I (n2 + 0))), (3, .int (z_I 0)), (5, .int (z_I 1)), (4, .int (z_I 0)), (2, .int (z_I q)), (0, .ref hM)] dX7_carryOut_131 rfl (by decide) rfl ?_
                                      refine z_goto C 82 dX7_carryOut_134 (by decide) ?_
                                      refine z_lsub [(6, .int (z_I (i + 1))), (5, .int (z_I 1)), (4, .int (z_I 0)), (3, .int (z_I 0)), (2, .int (z_I q)), (1, .int (z_I (n2 + 0))), (0, .ref hM)] [0, 3, 4, 2, 5, 1, 6] rfl ?_
                                      exact ih82 (i + 1) 0 (n2 + 0) ((z_c1 ln sg c2 q).1) u2 (by first | assumption | omega) (z_c1_ok hsgn hqo2 hqt2 (by omega)).1 (z_c1_ok hsgn hqo2 hqt2 (by omega)).2 hp2.1 (by have h9 := z_ci9_s hii (by omega) hp2.2.1; first | (rw [if_pos hz2] at h9; exact h9) | (rw [if_neg hz2] at h9; exact h9)) (by omega)
                                  · first
                                    | (exfalso; omega)
                                    | skip
                                      refine z_iconst C 1 dX7_carryOut_124 ?_
                                      refine z_goto C 129 dX7_carryOut_125 (by decide) ?_
                                      refine z_iadd C dX7_carryOut_129 ?_
                                      refine z_istore_n C [(1, .int (z_I (n2 + 1))), (3, .int (z_I 0)), (6, .int (z_I i)), (5, .int (z_I 1)), (4, .int (z_I 0)), (2, .int (z_I q)), (0, .ref hM)] dX7_carryOut_130 (by decide) rfl ?_
                                      refine z_iinc C 2 [(6, .int (z_I (i + 1))), (1, .int (z_I (n2 + 1))), (3, .int (z_I 0)), (5, .int (z_I 1)), (4, .int (z_I 0)), (2, .int (z_I q)), (0, .ref hM)] dX7_carryOut_131 rfl (by decide) rfl ?_
                                      refine z_goto C 82 dX7_carryOut_134 (by decide) ?_
                                      refine z_lsub [(6, .int (z_I (i + 1))), (5, .int (z_I 1)), (4, .int (z_I 0)), (3, .int (z_I 0)), (2, .int (z_I q)), (1, .int (z_I (n2 + 1))), (0, .ref hM)] [0, 3, 4, 2, 5, 1, 6] rfl ?_
                                      exact ih82 (i + 1) 0 (n2 + 1) ((z_c1 ln sg c2 q).1) u2 (by first | assumption | omega) (z_c1_ok hsgn hqo2 hqt2 (by omega)).1 (z_c1_ok hsgn hqo2 hqt2 (by omega)).2 hp2.1 (by have h9 := z_ci9_s hii (by omega) hp2.2.1; first | (rw [if_pos hz2] at h9; exact h9) | (rw [if_neg hz2] at h9; exact h9)) (by omega)
                                · skip
                                  have hz2 : ri2 = 0 := by omega
                                  refine z_iconst C 1 dX7_carryOut_113 ?_
                                  refine z_goto C 118 dX7_carryOut_114 (by decide) ?_
                                  refine z_istore_n C [(3, .int (z_I 1)), (6, .int (z_I i)), (5, .int (z_I 1)), (4, .int (z_I 0)), (2, .int (z_I q)), (1, .int (z_I n2)), (0, .ref hM)] dX7_carryOut_118 (by decide) rfl ?_
                                  refine z_iload_n C 5 dX7_carryOut_119 rfl ?_
                                  refine z_iload_n C 0 dX7_carryOut_120 rfl ?_
                                  refine z_if_eq C 128 dX7_carryOut_121 (by decide) (by omega) (fun hc31 => ?_) (fun hc31 => ?_)
                                  · first
                                    | (exfalso; omega)
                                    | skip
                                      refine z_iconst C 0 dX7_carryOut_128 ?_
                                      refine z_iadd C dX7_carryOut_129 ?_
                                      refine z_istore_n C [(1, .int (z_I (n2 + 0))), (3, .int (z_I 1)), (6, .int (z_I i)), (5, .int (z_I 1)), (4, .int (z_I 0)), (2, .int (z_I q)), (0, .ref hM)] dX7_carryOut_130 (by decide) rfl ?_
                                      refine z_iinc C 2 [(6, .int (z_I (i + 1))), (1, .int (z_I (n2 + 0))), (3, .int (z_I 1)), (5, .int (z_I 1)), (4, .int (z_I 0)), (2, .int (z_I q)), (0, .ref hM)] dX7_carryOut_131 rfl (by decide) rfl ?_
                                      refine z_goto C 82 dX7_carryOut_134 (by decide) ?_
                                      refine z_lsub [(6, .int (z_I (i + 1))), (5, .int (z_I 1)), (4, .int (z_I 0)), (3, .int (z_I 1)), (2, .int (z_I q)), (1, .int (z_I (n2 + 0))), (0, .ref hM)] [0, 3, 4, 2, 5, 1, 6] rfl ?_
                                      exact ih82 (i + 1) 1 (n2 + 0) ((z_c1 ln sg c2 q).1) u2 (by first | assumption | omega) (z_c1_ok hsgn hqo2 hqt2 (by omega)).1 (z_c1_ok hsgn hqo2 hqt2 (by omega)).2 hp2.1 (by have h9 := z_ci9_s hii (by omega) hp2.2.1; first | (rw [if_pos hz2] at h9; exact h9) | (rw [if_neg hz2] at h9; exact h9)) (by omega)
                                  · first
                                    | (exfalso; omega)
                                    | skip
                                      refine z_iconst C 1 dX7_carryOut_124 ?_
                                      refine z_goto C 129 dX7_carryOut_125 (by decide) ?_
                                      refine z_iadd C dX7_carryOut_129 ?_
                                      refine z_istore_n C [(1, .int (z_I (n2 + 1))), (3, .int (z_I 1)), (6, .int (z_I i)), (5, .int (z_I 1)), (4, .int (z_I 0)), (2, .int (z_I q)), (0, .ref hM)] dX7_carryOut_130 (by decide) rfl ?_
                                      refine z_iinc C 2 [(6, .int (z_I (i + 1))), (1, .int (z_I (n2 + 1))), (3, .int (z_I 1)), (5, .int (z_I 1)), (4, .int (z_I 0)), (2, .int (z_I q)), (0, .ref hM)] dX7_carryOut_131 rfl (by decide) rfl ?_
                                      refine z_goto C 82 dX7_carryOut_134 (by decide) ?_
                                      refine z_lsub [(6, .int (z_I (i + 1))), (5, .int (z_I 1)), (4, .int (z_I 0)), (3, .int (z_I 1)), (2, .int (z_I q)), (1, .int (z_I (n2 + 1))), (0, .ref hM)] [0, 3, 4, 2, 5, 1, 6] rfl ?_
                                      exact ih82 (i + 1) 1 (n2 + 1) ((z_c1 ln sg c2 q).1) u2 (by first | assumption | omega) (z_c1_ok hsgn hqo2 hqt2 (by omega)).1 (z_c1_ok hsgn hqo2 hqt2 (by omega)).2 hp2.1 (by have h9 := z_ci9_s hii (by omega) hp2.2.1; first | (rw [if_pos hz2] at h9; exact h9) | (rw [if_neg hz2] at h9; exact h9)) (by omega)
                            · first
                              | (exfalso; omega)
                              | skip
                                refine z_aload_n C 6 dX7_carryOut_98 rfl ?_
                                refine z_callEi C [0, 1] (fun u2 => [(hM, .inr (7, [.ref aS, .ref aPa, .int (z_I (if kn = 6 then 6 else kn + 1)), .ref aSl, .ref aSv, .ref aPd, .int (z_I ln)])), (aS, z_ai cI 712 u2), (aPa, z_ai cI 2136 (z_rem f pf kn)), (aPd, z_ai cI 80 pd)]) [] [] (c_X7_ticks l D cI cZ cO hM aS aPa aSl aSv aPd (if kn = 6 then 6 else kn + 1) ln g2 c2 hqr2 hqo2 hqt2) gX7_carryOut_X7_ticks rfl zd_X7_ticks rfl (by decide) rfl rfl rfl (by decide) (fun _ => rfl) (fun _ => rfl) rfl (Nat.le_of_ble_eq_true rfl) (by decide) dX7_carryOut_99 (fun u2 ri2 hp2 => ?_)
                                rw [← hrow c2] at hp2
                                refine z_goto C 110 dX7_carryOut_102 (by decide) ?_
                                refine z_if_ne C 117 dX7_carryOut_110 (by decide) (by omega) (fun hc32 => ?_) (fun hc32 => ?_)
                                · skip
                                  have hz2 : ¬ ri2 = 0 := hc32
                                  refine z_iconst C 0 dX7_carryOut_117 ?_
                                  refine z_istore_n C [(3, .int (z_I 0)), (6, .int (z_I i)), (5, .int (z_I 1)), (4, .int (z_I 0)), (2, .int (z_I q)), (1, .int (z_I n2)), (0, .ref hM)] dX7_carryOut_118 (by decide) rfl ?_
                                  refine z_iload_n C 5 dX7_carryOut_119 rfl ?_
                                  refine z_iload_n C 0 dX7_carryOut_120 rfl ?_
                                  refine z_if_eq C 128 dX7_carryOut_121 (by decide) (by omega) (fun hc33 => ?_) (fun hc33 => ?_)
                                  · first
                                    | (exfalso; omega)
                                    | skip
                                      refine z_iconst C 0 dX7_carryOut_128 ?_
                                      refine z_iadd C dX7_carryOut_129 ?_
                                      refine z_istore_n C [(1, .int (z_I (n2 + 0))), (3, .int (z_I 0)), (6, .int (z_I i)), (5, .int (z_I 1)), (4, .int (z_I 0)), (2, .int (z_I q)), (0, .ref hM)] dX7_carryOut_130 (by decide) rfl ?_
                                      refine z_iinc C 2 [(6, .int (z_I (i + 1))), (1, .int (z_I (n2 + 0))), (3, .int (z_I 0)), (5, .int (z_I 1)), (4, .int (z_I 0)), (2, .int (z_I q)), (0, .ref hM)] dX7_carryOut_131 rfl (by decide) rfl ?_
                                      refine z_goto C 82 dX7_carryOut_134 (by decide) ?_
                                      refine z_lsub [(6, .int (z_I (i + 1))), (5, .int (z_I 1)), (4, .int (z_I 0)), (3, .int (z_I 0)), (2, .int (z_I q)), (1, .int (z_I (n2 + 0))), (0, .ref hM)] [0, 3, 4, 2, 5, 1, 6] rfl ?_
                                      exact ih82 (i + 1) 0 (n2 + 0) ((z_c1 ln sg c2 q).1) u2 (by first | assumption | omega) (z_c1_ok hsgn hqo2 hqt2 (by omega)).1 (z_c1_ok hsgn hqo2 hqt2 (by omega)).2 hp2.1 (by have h9 := z_ci9_s hii (by omega) hp2.2.1; first | (rw [if_pos hz2] at h9; exact h9) | (rw [if_neg hz2] at h9; exact h9)) (by omega)
                                  · first
                                    | (exfalso; omega)
                                    | skip
                                      refine z_iconst C 1 dX7_carryOut_124 ?_
                                      refine z_goto C 129 dX7_carryOut_125 (by decide) ?_
                                      refine z_iadd C dX7_carryOut_129 ?_
                                      refine z_istore_n C [(1, .int (z_I (n2 + 1))), (3, .int (z_I 0)), (6, .int (z_I i)), (5, .int (z_I 1)), (4, .int (z_I 0)), (2, .int (z_I q)), (0, .ref hM)] dX7_carryOut_130 (by decide) rfl ?_
                                      refine z_iinc C 2 [(6, .int (z_I (i + 1))), (1, .int (z_I (n2 + 1))), (3, .int (z_I 0)), (5, .int (z_I 1)), (4, .int (z_I 0)), (2, .int (z_I q)), (0, .ref hM)] dX7_carryOut_131 rfl (by decide) rfl ?_
                                      refine z_goto C 82 dX7_carryOut_134 (by decide) ?_
                                      refine z_lsub [(6, .int (z_I (i + 1))), (5, .int (z_I 1)), (4, .int (z_I 0)), (3, .int (z_I 0)), (2, .int (z_I q)), (1, .int (z_I (n2 + 1))), (0, .ref hM)] [0, 3, 4, 2, 5, 1, 6] rfl ?_
                                      exact ih82 (i + 1) 0 (n2 + 1) ((z_c1 ln sg c2 q).1) u2 (by first | assumption | omega) (z_c1_ok hsgn hqo2 hqt2 (by omega)).1 (z_c1_ok hsgn hqo2 hqt2 (by omega)).2 hp2.1 (by have h9 := z_ci9_s hii (by omega) hp2.2.1; first | (rw [if_pos hz2] at h9; exact h9) | (rw [if_neg hz2] at h9; exact h9)) (by omega)
                                · skip
                                  have hz2 : ri2 = 0 := by omega
                                  refine z_iconst C 1 dX7_carryOut_113 ?_
                                  refine z_goto C 118 dX7_carryOut_114 (by decide) ?_
                                  refine z_istore_n C [(3, .int (z_I 1)), (6, .int (z_I i)), (5, .int (z_I 1)), (4, .int (z_I 0)), (2, .int (z_I q)), (1, .int (z_I n2)), (0, .ref hM)] dX7_carryOut_118 (by decide) rfl ?_
                                  refine z_iload_n C 5 dX7_carryOut_119 rfl ?_
                                  refine z_iload_n C 0 dX7_carryOut_120 rfl ?_
                                  refine z_if_eq C 128 dX7_carryOut_121 (by decide) (by omega) (fun hc34 => ?_) (fun hc34 => ?_)
                                  · first
                                    | (exfalso; omega)
                                    | skip
                                      refine z_iconst C 0 dX7_carryOut_128 ?_
                                      refine z_iadd C dX7_carryOut_129 ?_
                                      refine z_istore_n C [(1, .int (z_I (n2 + 0))), (3, .int (z_I 1)), (6, .int (z_I i)), (5, .int (z_I 1)), (4, .int (z_I 0)), (2, .int (z_I q)), (0, .ref hM)] dX7_carryOut_130 (by decide) rfl ?_
                                      refine z_iinc C 2 [(6, .int (z_I (i + 1))), (1, .int (z_I (n2 + 0))), (3, .int (z_I 1)), (5, .int (z_I 1)), (4, .int (z_I 0)), (2, .int (z_I q)), (0, .ref hM)] dX7_carryOut_131 rfl (by decide) rfl ?_
                                      refine z_goto C 82 dX7_carryOut_134 (by decide) ?_
                                      refine z_lsub [(6, .int (z_I (i + 1))), (5, .int (z_I 1)), (4, .int (z_I 0)), (3, .int (z_I 1)), (2, .int (z_I q)), (1, .int (z_I (n2 + 0))), (0, .ref hM)] [0, 3, 4, 2, 5, 1, 6] rfl ?_
                                      exact ih82 (i + 1) 1 (n2 + 0) ((z_c1 ln sg c2 q).1) u2 (by first | assumption | omega) (z_c1_ok hsgn hqo2 hqt2 (by omega)).1 (z_c1_ok hsgn hqo2 hqt2 (by omega)).2 hp2.1 (by have h9 := z_ci9_s hii (by omega) hp2.2.1; first | (rw [if_pos hz2] at h9; exact h9) | (rw [if_neg hz2] at h9; exact h9)) (by omega)
                                  · first
                                    | (exfalso; omega)
                                    | skip
                                      refine z_iconst C 1 dX7_carryOut_124 ?_
                                      refine z_goto C 129 dX7_carryOut_125 (by decide) ?_
                                      refine z_iadd C dX7_carryOut_129 ?_
                                      refine z_istore_n C [(1, .int (z_I (n2 + 1))), (3, .int (z_I 1)), (6, .int (z_I i)), (5, .int (z_I 1)), (4, .int (z_I 0)), (2, .int (z_I q)), (0, .ref hM)] dX7_carryOut_130 (by decide) rfl ?_
                                      refine z_iinc C 2 [(6, .int (z_I (i + 1))), (1, .int (z_I (n2 + 1))), (3, .int (z_I 1)), (5, .int (z_I 1)), (4, .int (z_I 0)), (2, .int (z_I q)), (0, .ref hM)] dX7_carryOut_131 rfl (by decide) rfl ?_
                                      refine z_goto C 82 dX7_carryOut_134 (by decide) ?_
                                      refine z_lsub [(6, .int (z_I (i + 1))), (5, .int (z_I 1)), (4, .int (z_I 0)), (3, .int (z_I 1)), (2, .int (z_I q)), (1, .int (z_I (n2 + 1))), (0, .ref hM)] [0, 3, 4, 2, 5, 1, 6] rfl ?_
                                      exact ih82 (i + 1) 1 (n2 + 1) ((z_c1 ln sg c2 q).1) u2 (by first | assumption | omega) (z_c1_ok hsgn hqo2 hqt2 (by omega)).1 (z_c1_ok hsgn hqo2 hqt2 (by omega)).2 hp2.1 (by have h9 := z_ci9_s hii (by omega) hp2.2.1; first | (rw [if_pos hz2] at h9; exact h9) | (rw [if_neg hz2] at h9; exact h9)) (by omega)
                    exact loop82 102 0 go n cz g (by first | assumption | omega) hqo hqt hqr (by rw [hgo1]; exact ⟨⟨by omega, Or.inr rfl⟩, Or.inl ⟨rfl, by rw [Int.sub_zero]⟩⟩) (by omega)
                · first
                  | (exfalso; omega)
                  | skip
                    refine z_aload_n C 4 dX7_carryOut_66 rfl ?_
                    refine z_iload_n C 2 dX7_carryOut_67 rfl ?_
                    refine z_iconst C 1 dX7_carryOut_68 ?_
                    refine z_iadd C dX7_carryOut_69 ?_
                    refine z_callVi C [0, 3] [(hM, .inr (7, [.ref aS, .ref aPa, .int (z_I (if kn = 6 then 6 else kn + 1)), .ref aSl, .ref aSv, .ref aPd, .int (z_I ln)])), (aS, z_ai cI 712 g), (aPa, z_ai cI 2136 (z_rem f pf kn)), (aPd, z_ai cI 80 pd)] [.int (z_I (q + 1))] [] (c_X7_numberAt l D cI cZ cO hM aS aPa aSl aSv aPd (if kn = 6 then 6 else kn + 1) ln sg pd (q + 1) (by first | assumption | omega) (by first | assumption | omega) (by first | assumption | omega) (by first | assumption | omega)) gX7_carryOut_X7_numberAt rfl zd_X7_numberAt rfl (by decide) rfl rfl rfl (by decide) rfl rfl rfl (Nat.le_of_ble_eq_true rfl) (by decide) dX7_carryOut_70 ?_
                    refine z_goto C 77 dX7_carryOut_73 (by decide) ?_
                    refine z_istore C [(5, .int (z_I (z_mn ln sg (q + 1)))), (4, .int (z_I 0)), (3, .int (z_I go)), (2, .int (z_I q)), (1, .int (z_I n)), (0, .ref hM)] dX7_carryOut_77 (by decide) rfl ?_
                    refine z_iconst C 0 dX7_carryOut_79 ?_
                    refine z_istore C [(6, .int (z_I 0)), (5, .int (z_I (z_mn ln sg (q + 1)))), (4, .int (z_I 0)), (3, .int (z_I go)), (2, .int (z_I q)), (1, .int (z_I n)), (0, .ref hM)] dX7_carryOut_80 (by decide) rfl ?_
                    have loop82 : ∀ (zn : Nat) (i : Int) (go2 : Int) (n2 : Int) (c2 : z_Ct) (g2 : Int → Int), 0 ≤ i ∧ (i ≤ z_oa ln sg q ∨ i = 0) → z_ok c2 → c2.1.1 ≤ 9999 → z_rel c2 0 g2 → z_ci9 ln sg cz n q (z_oa ln sg q) go2 c2 n2 i → (z_oa ln sg q - i + 1) < (zn : Int) → z_V p l e { frames := 6, cells := 0, slots := 0, locals := 140 } s m args below meth c D A 7 0 0 Q [(hM, .inr (7, [.ref aS, .ref aPa, .int (z_I (if kn = 6 then 6 else kn + 1)), .ref aSl, .ref aSv, .ref aPd, .int (z_I ln)])), (aS, z_ai cI 712 g2), (aPa, z_ai cI 2136 (z_rem f pf kn)), (aPd, z_ai cI 80 pd)] 82 [(6, .int (z_I i)), (5, .int (z_I (z_mn ln sg (q + 1)))), (4, .int (z_I 0)), (3, .int (z_I go2)), (2, .int (z_I q)), (1, .int (z_I n2)), (0, .ref hM)] [] := by
                      intro zn
                      induction zn with
                      | zero => intro i go2 n2 c2 g2 hi hqo2 hqt2 hqr2 hii hm82; exact absurd hm82 (by omega)
                      | succ zn82 ih82 =>
                        intro i go2 n2 c2 g2 hi hqo2 hqt2 hqr2 hii hm82
                        have hgo2 : go2 = 0 ∨ go2 = 1 := by rcases hii.2 with h9 | h9 <;> omega
                        refine z_iload C 0 dX7_carryOut_82 rfl ?_
                        refine z_iload C 1 dX7_carryOut_84 rfl ?_
                        refine z_icmp_ge C 137 dX7_carryOut_86 (by decide) (by omega) (by omega) (fun hc35 => ?_) (fun hc35 => ?_)
                        · skip
                          refine z_aload_n C 6 dX7_carryOut_137 rfl ?_
                          refine z_iload_n C 4 dX7_carryOut_138 rfl ?_
                          refine z_callVi C [0, 3] [(hM, .inr (7, [.ref aS, .ref aPa, .int (z_I (if kn = 6 then 6 else kn + 1)), .ref aSl, .ref aSv, .ref aPd, .int (z_I ln)])), (aS, z_ai cI 712 g2), (aPa, z_ai cI 2136 (z_rem f pf kn)), (aPd, z_ai cI 80 pd)] [.int (z_I q)] [] (c_X7_orderEnd l D cI cZ cO hM aS aPa aSl aSv aPd (if kn = 6 then 6 else kn + 1) ln sg pd q (by first | assumption | omega) (by first | assumption | omega) (by first | assumption | omega) (by first | assumption | omega)) gX7_carryOut_X7_orderEnd rfl zd_X7_orderEnd rfl (by decide) rfl rfl rfl (by decide) rfl rfl rfl (Nat.le_of_ble_eq_true rfl) (by decide) dX7_carryOut_139 ?_
                          refine z_iconst C 1 dX7_carryOut_142 ?_
                          refine z_iadd C dX7_carryOut_143 ?_
                          refine z_istore_n C [(2, .int (z_I ((z_oe ln sg q) + 1))), (6, .int (z_I i)), (5, .int (z_I (z_mn ln sg (q + 1)))), (4, .int (z_I 0)), (3, .int (z_I go2)), (1, .int (z_I n2)), (0, .ref hM)] dX7_carryOut_144 (by decide) rfl ?_
                          refine z_goto C 22 dX7_carryOut_145 (by decide) ?_
                          refine z_lsub [(3, .int (z_I go2)), (2, .int (z_I ((z_oe ln sg q) + 1))), (1, .int (z_I n2)), (0, .ref hM)] [4, 0, 5, 6] rfl ?_
                          exact ih22 n2 ((z_oe ln sg q) + 1) go2 c2 g2 (by first | assumption | omega) hqo2 hqt2 hqr2 (z_cs9_n hcs (by omega) hii (by omega)) (by omega)
                        · skip
                          refine z_iload_n C 3 dX7_carryOut_89 rfl ?_
                          refine z_if_eq C 137 dX7_carryOut_90 (by decide) (by omega) (fun hc36 => ?_) (fun hc36 => ?_)
                          · skip
                            refine z_aload_n C 6 dX7_carryOut_137 rfl ?_
                            refine z_iload_n C 4 dX7_carryOut_138 rfl ?_
                            refine z_callVi C [0, 3] [(hM, .inr (7, [.ref aS, .ref aPa, .int (z_I (if kn = 6 then 6 else kn + 1)), .ref aSl, .ref aSv, .ref aPd, .int (z_I ln)])), (aS, z_ai cI 712 g2), (aPa, z_ai cI 2136 (z_rem f pf kn)), (aPd, z_ai cI 80 pd)] [.int (z_I q)] [] (c_X7_orderEnd l D cI cZ cO hM aS aPa aSl aSv aPd (if kn = 6 then 6 else kn + 1) ln sg pd q (by first | assumption | omega) (by first | assumption | omega) (by first | assumption | omega) (by first | assumption | omega)) gX7_carryOut_X7_orderEnd rfl zd_X7_orderEnd rfl (by decide) rfl rfl rfl (by decide) rfl rfl rfl (Nat.le_of_ble_eq_true rfl) (by decide) dX7_carryOut_139 ?_
                            refine z_iconst C 1 dX7_carryOut_142 ?_
                            refine z_iadd C dX7_carryOut_143 ?_
                            refine z_istore_n C [(2, .int (z_I ((z_oe ln sg q) + 1))), (6, .int (z_I i)), (5, .int (z_I (z_mn ln sg (q + 1)))), (4, .int (z_I 0)), (3, .int (z_I go2)), (1, .int (z_I n2)), (0, .ref hM)] dX7_carryOut_144 (by decide) rfl ?_
                            refine z_goto C 22 dX7_carryOut_145 (by decide) ?_
                            refine z_lsub [(3, .int (z_I go2)), (2, .int (z_I ((z_oe ln sg q) + 1))), (1, .int (z_I n2)), (0, .ref hM)] [4, 0, 5, 6] rfl ?_
                            exact ih22 n2 ((z_oe ln sg q) + 1) go2 c2 g2 (by first | assumption | omega) hqo2 hqt2 hqr2 (z_cs9_n hcs (by omega) hii (by omega)) (by omega)
                          · skip
                            have hg21 : go2 = 1 := by omega
                            rw [hg21] at hii
                            refine z_iload C 2 dX7_carryOut_93 rfl ?_
                            refine z_if_eq C 105 dX7_carryOut_95 (by decide) (by omega) (fun hc37 => ?_) (fun hc37 => ?_)
                            · first
                              | (exfalso; omega)
                              | skip
                                refine z_aload_n C 6 dX7_carryOut_105 rfl ?_
                                refine z_iload_n C 4 dX7_carryOut_106 rfl ?_
                                refine z_callEi C [0, 1, 3] (fun u2 => [(hM, .inr (7, [.ref aS, .ref aPa, .int (z_I (if kn = 6 then 6 else kn + 1)), .ref aSl, .ref aSv, .ref aPd, .int (z_I ln)])), (aS, z_ai cI 712 u2), (aPa, z_ai cI 2136 (z_rem f pf kn)), (aPd, z_ai cI 80 pd)]) [.int (z_I q)] [] (c_X7_carries l D cI cZ cO hM aS aPa aSl aSv aPd (if kn = 6 then 6 else kn + 1) ln g2 sg pd c2 q hqr2 hqo2 hqt2 (by first | assumption | omega) (by first | assumption | omega) (by first | assumption | omega) (by first | assumption | omega) hst9 (by omega)) gX7_carryOut_X7_carries rfl zd_X7_carries rfl (by decide) rfl rfl rfl (by decide) (fun _ => rfl) (fun _ => rfl) rfl (Nat.le_of_ble_eq_true rfl) (by decide) dX7_carryOut_107 (fun u2 ri2 hp2 => ?_)
                                refine z_if_ne C 117 dX7_carryOut_110 (by decide) (by omega) (fun hc38 => ?_) (fun hc38 => ?_)
                                · skip
                                  have hz2 : ¬ ri2 = 0 := hc38
                                  refine z_iconst C 0 dX7_carryOut_117 ?_
                                  refine z_istore_n C [(3, .int (z_I 0)), (6, .int (z_I i)), (5, .int (z_I (z_mn ln sg (q + 1)))), (4, .int (z_I 0)), (2, .int (z_I q)), (1, .int (z_I n2)), (0, .ref hM)] dX7_carryOut_118 (by decide) rfl ?_
                                  refine z_iload_n C 5 dX7_carryOut_119 rfl ?_
                                  refine z_iload_n C 0 dX7_carryOut_120 rfl ?_
                                  refine z_if_eq C 128 dX7_carryOut_121 (by decide) (by omega) (fun hc39 => ?_) (fun hc39 => ?_)
                                  · first
                                    | (exfalso; omega)
                                    | skip
                                      refine z_iconst C 0 dX7_carryOut_128 ?_
                                      refine z_iadd C dX7_carryOut_129 ?_
                                      refine z_istore_n C [(1, .int (z_I (n2 + 0))), (3, .int (z_I 0)), (6, .int (z_I i)), (5, .int (z_I (z_mn ln sg (q + 1)))), (4, .int (z_I 0)), (2, .int (z_I q)), (0, .ref hM)] dX7_carryOut_130 (by decide) rfl ?_
                                      refine z_iinc C 2 [(6, .int (z_I (i + 1))), (1, .int (z_I (n2 + 0))), (3, .int (z_I 0)), (5, .int (z_I (z_mn ln sg (q + 1)))), (4, .int (z_I 0)), (2, .int (z_I q)), (0, .ref hM)] dX7_carryOut_131 rfl (by decide) rfl ?_
                                      refine z_goto C 82 dX7_carryOut_134 (by decide) ?_
                                      refine z_lsub [(6, .int (z_I (i + 1))), (5, .int (z_I (z_mn ln sg (q + 1)))), (4, .int (z_I 0)), (3, .int (z_I 0)), (2, .int (z_I q)), (1, .int (z_I (n2 + 0))), (0, .ref hM)] [0, 3, 4, 2, 5, 1, 6] rfl ?_
                                      exact ih82 (i + 1) 0 (n2 + 0) ((z_c1 ln sg c2 q).1) u2 (by first | assumption | omega) (z_c1_ok hsgn hqo2 hqt2 (by omega)).1 (z_c1_ok hsgn hqo2 hqt2 (by omega)).2 hp2.1 (by have h9 := z_ci9_s hii (by omega) hp2.2.1; first | (rw [if_pos hz2] at h9; exact h9) | (rw [if_neg hz2] at h9; exact h9)) (by omega)
                                  · first
                                    | (exfalso; omega)
                                    | skip
                                      refine z_iconst C 1 dX7_carryOut_124 ?_
                                      refine z_goto C 129 dX7_carryOut_125 (by decide) ?_
                                      refine z_iadd C dX7_carryOut_129 ?_
                                      refine z_istore_n C [(1, .int (z_I (n2 + 1))), (3, .int (z_I 0)), (6, .int (z_I i)), (5, .int (z_I (z_mn ln sg (q + 1)))), (4, .int (z_I 0)), (2, .int (z_I q)), (0, .ref hM)] dX7_carryOut_130 (by decide) rfl ?_
                                      refine z_iinc C 2 [(6, .int (z_I (i + 1))), (1, .int (z_I (n2 + 1))), (3, .int (z_I 0)), (5, .int (z_I (z_mn ln sg (q + 1)))), (4, .int (z_I 0)), (2, .int (z_I q)), (0, .ref hM)] dX7_carryOut_131 rfl (by decide) rfl ?_
                                      refine z_goto C 82 dX7_carryOut_134 (by decide) ?_
                                      refine z_lsub [(6, .int (z_I (i + 1))), (5, .int (z_I (z_mn ln sg (q + 1)))), (4, .int (z_I 0)), (3, .int (z_I 0)), (2, .int (z_I q)), (1, .int (z_I (n2 + 1))), (0, .ref hM)] [0, 3, 4, 2, 5, 1, 6] rfl ?_
                                      exact ih82 (i + 1) 0 (n2 + 1) ((z_c1 ln sg c2 q).1) u2 (by first | assumption | omega) (z_c1_ok hsgn hqo2 hqt2 (by omega)).1 (z_c1_ok hsgn hqo2 hqt2 (by omega)).2 hp2.1 (by have h9 := z_ci9_s hii (by omega) hp2.2.1; first | (rw [if_pos hz2] at h9; exact h9) | (rw [if_neg hz2] at h9; exact h9)) (by omega)
                                · skip
                                  have hz2 : ri2 = 0 := by omega
                                  refine z_iconst C 1 dX7_carryOut_113 ?_
                                  refine z_goto C 118 dX7_carryOut_114 (by decide) ?_
                                  refine z_istore_n C [(3, .int (z_I 1)), (6, .int (z_I i)), (5, .int (z_I (z_mn ln sg (q + 1)))), (4, .int (z_I 0)), (2, .int (z_I q)), (1, .int (z_I n2)), (0, .ref hM)] dX7_carryOut_118 (by decide) rfl ?_
                                  refine z_iload_n C 5 dX7_carryOut_119 rfl ?_
                                  refine z_iload_n C 0 dX7_carryOut_120 rfl ?_
                                  refine z_if_eq C 128 dX7_carryOut_121 (by decide) (by omega) (fun hc40 => ?_) (fun hc40 => ?_)
                                  · first
                                    | (exfalso; omega)
                                    | skip
                                      refine z_iconst C 0 dX7_carryOut_128 ?_
                                      refine z_iadd C dX7_carryOut_129 ?_
                                      refine z_istore_n C [(1, .int (z_I (n2 + 0))), (3, .int (z_I 1)), (6, .int (z_I i)), (5, .int (z_I (z_mn ln sg (q + 1)))), (4, .int (z_I 0)), (2, .int (z_I q)), (0, .ref hM)] dX7_carryOut_130 (by decide) rfl ?_
                                      refine z_iinc C 2 [(6, .int (z_I (i + 1))), (1, .int (z_I (n2 + 0))), (3, .int (z_I 1)), (5, .int (z_I (z_mn ln sg (q + 1)))), (4, .int (z_I 0)), (2, .int (z_I q)), (0, .ref hM)] dX7_carryOut_131 rfl (by decide) rfl ?_
                                      refine z_goto C 82 dX7_carryOut_134 (by decide) ?_
                                      refine z_lsub [(6, .int (z_I (i + 1))), (5, .int (z_I (z_mn ln sg (q + 1)))), (4, .int (z_I 0)), (3, .int (z_I 1)), (2, .int (z_I q)), (1, .int (z_I (n2 + 0))), (0, .ref hM)] [0, 3, 4, 2, 5, 1, 6] rfl ?_
                                      exact ih82 (i + 1) 1 (n2 + 0) ((z_c1 ln sg c2 q).1) u2 (by first | assumption | omega) (z_c1_ok hsgn hqo2 hqt2 (by omega)).1 (z_c1_ok hsgn hqo2 hqt2 (by omega)).2 hp2.1 (by have h9 := z_ci9_s hii (by omega) hp2.2.1; first | (rw [if_pos hz2] at h9; exact h9) | (rw [if_neg hz2] at h9; exact h9)) (by omega)
                                  · first
                                    | (exfalso; omega)
                                    | skip
                                      refine z_iconst C 1 dX7_carryOut_124 ?_
                                      refine z_goto C 129 dX7_carryOut_125 (by decide) ?_
                                      refine z_iadd C dX7_carryOut_129 ?_
                                      refine z_istore_n C [(1, .int (z_I (n2 + 1))), (3, .int (z_I 1)), (6, .int (z_I i)), (5, .int (z_I (z_mn ln sg (q + 1)))), (4, .int (z_I 0)), (2, .int (z_I q)), (0, .ref hM)] dX7_carryOut_130 (by decide) rfl ?_
                                      refine z_iinc C 2 [(6, .int (z_I (i + 1))), (1, .int (z_I (n2 + 1))), (3, .int (z_I 1)), (5, .int (z_I (z_mn ln sg (q + 1)))), (4, .int (z_I 0)), (2, .int (z_I q)), (0, .ref hM)] dX7_carryOut_131 rfl (by decide) rfl ?_
                                      refine z_goto C 82 dX7_carryOut_134 (by decide) ?_
                                      refine z_lsub [(6, .int (z_I (i + 1))), (5, .int (z_I (z_mn ln sg (q + 1)))), (4, .int (z_I 0)), (3, .int (z_I 1)), (2, .int (z_I q)), (1, .int (z_I (n2 + 1))), (0, .ref hM)] [0, 3, 4, 2, 5, 1, 6] rfl ?_
                                      exact ih82 (i + 1) 1 (n2 + 1) ((z_c1 ln sg c2 q).1) u2 (by first | assumption | omega) (z_c1_ok hsgn hqo2 hqt2 (by omega)).1 (z_c1_ok hsgn hqo2 hqt2 (by omega)).2 hp2.1 (by have h9 := z_ci9_s hii (by omega) hp2.2.1; first | (rw [if_pos hz2] at h9; exact h9) | (rw [if_neg hz2] at h9; exact h9)) (by omega)
                            · first
                              | (exfalso; omega)
                              | skip
                                refine z_aload_n C 6 dX7_carryOut_98 rfl ?_
                                refine z_callEi C [0, 1] (fun u2 => [(hM, .inr (7, [.ref aS, .ref aPa, .int (z_I (if kn = 6 then 6 else kn + 1)), .ref aSl, .ref aSv, .ref aPd, .int (z_I ln)])), (aS, z_ai cI 712 u2), (aPa, z_ai cI 2136 (z_rem f pf kn)), (aPd, z_ai cI 80 pd)]) [] [] (c_X7_ticks l D cI cZ cO hM aS aPa aSl aSv aPd (if kn = 6 then 6 else kn + 1) ln g2 c2 hqr2 hqo2 hqt2) gX7_carryOut_X7_ticks rfl zd_X7_ticks rfl (by decide) rfl rfl rfl (by decide) (fun _ => rfl) (fun _ => rfl) rfl (Nat.le_of_ble_eq_true rfl) (by decide) dX7_carryOut_99 (fun u2 ri2 hp2 => ?_)
                                rw [← hrow c2] at hp2
                                refine z_goto C 110 dX7_carryOut_102 (by decide) ?_
                                refine z_if_ne C 117 dX7_carryOut_110 (by decide) (by omega) (fun hc41 => ?_) (fun hc41 => ?_)
                                · skip
                                  have hz2 : ¬ ri2 = 0 := hc41
                                  refine z_iconst C 0 dX7_carryOut_117 ?_
                                  refine z_istore_n C [(3, .int (z_I 0)), (6, .int (z_I i)), (5, .int (z_I (z_mn ln sg (q + 1)))), (4, .int (z_I 0)), (2, .int (z_I q)), (1, .int (z_I n2)), (0, .ref hM)] dX7_carryOut_118 (by decide) rfl ?_
                                  refine z_iload_n C 5 dX7_carryOut_119 rfl ?_
                                  refine z_iload_n C 0 dX7_carryOut_120 rfl ?_
                                  refine z_if_eq C 128 dX7_carryOut_121 (by decide) (by omega) (fun hc42 => ?_) (fun hc42 => ?_)
                                  · first
                                    | (exfalso; omega)
                                    | skip
                                      refine z_iconst C 0 dX7_carryOut_128 ?_
                                      refine z_iadd C dX7_carryOut_129 ?_
                                      refine z_istore_n C [(1, .int (z_I (n2 + 0))), (3, .int (z_I 0)), (6, .int (z_I i)), (5, .int (z_I (z_mn ln sg (q + 1)))), (4, .int (z_I 0)), (2, .int (z_I q)), (0, .ref hM)] dX7_carryOut_130 (by decide) rfl ?_
                                      refine z_iinc C 2 [(6, .int (z_I (i + 1))), (1, .int (z_I (n2 + 0))), (3, .int (z_I 0)), (5, .int (z_I (z_mn ln sg (q + 1)))), (4, .int (z_I 0)), (2, .int (z_I q)), (0, .ref hM)] dX7_carryOut_131 rfl (by decide) rfl ?_
                                      refine z_goto C 82 dX7_carryOut_134 (by decide) ?_
                                      refine z_lsub [(6, .int (z_I (i + 1))), (5, .int (z_I (z_mn ln sg (q + 1)))), (4, .int (z_I 0)), (3, .int (z_I 0)), (2, .int (z_I q)), (1, .int (z_I (n2 + 0))), (0, .ref hM)] [0, 3, 4, 2, 5, 1, 6] rfl ?_
                                      exact ih82 (i + 1) 0 (n2 + 0) ((z_c1 ln sg c2 q).1) u2 (by first | assumption | omega) (z_c1_ok hsgn hqo2 hqt2 (by omega)).1 (z_c1_ok hsgn hqo2 hqt2 (by omega)).2 hp2.1 (by have h9 := z_ci9_s hii (by omega) hp2.2.1; first | (rw [if_pos hz2] at h9; exact h9) | (rw [if_neg hz2] at h9; exact h9)) (by omega)
                                  · first
                                    | (exfalso; omega)
                                    | skip
                                      refine z_iconst C 1 dX7_carryOut_124 ?_
                                      refine z_goto C 129 dX7_carryOut_125 (by decide) ?_
                                      refine z_iadd C dX7_carryOut_129 ?_
                                      refine z_istore_n C [(1, .int (z_I (n2 + 1))), (3, .int (z_I 0)), (6, .int (z_I i)), (5, .int (z_I (z_mn ln sg (q + 1)))), (4, .int (z_I 0)), (2, .int (z_I q)), (0, .ref hM)] dX7_carryOut_130 (by decide) rfl ?_
                                      refine z_iinc C 2 [(6, .int (z_I (i + 1))), (1, .int (z_I (n2 + 1))), (3, .int (z_I 0)), (5, .int (z_I (z_mn ln sg (q + 1)))), (4, .int (z_I 0)), (2, .int (z_I q)), (0, .ref hM)] dX7_carryOut_131 rfl (by decide) rfl ?_
                                      refine z_goto C 82 dX7_carryOut_134 (by decide) ?_
                                      refine z_lsub [(6, .int (z_I (i + 1))), (5, .int (z_I (z_mn ln sg (q + 1)))), (4, .int (z_I 0)), (3, .int (z_I 0)), (2, .int (z_I q)), (1, .int (z_I (n2 + 1))), (0, .ref hM)] [0, 3, 4, 2, 5, 1, 6] rfl ?_
                                      exact ih82 (i + 1) 0 (n2 + 1) ((z_c1 ln sg c2 q).1) u2 (by first | assumption | omega) (z_c1_ok hsgn hqo2 hqt2 (by omega)).1 (z_c1_ok hsgn hqo2 hqt2 (by omega)).2 hp2.1 (by have h9 := z_ci9_s hii (by omega) hp2.2.1; first | (rw [if_pos hz2] at h9; exact h9) | (rw [if_neg hz2] at h9; exact h9)) (by omega)
                                · skip
                                  have hz2 : ri2 = 0 := by omega
                                  refine z_iconst C 1 dX7_carryOut_113 ?_
                                  refine z_goto C 118 dX7_carryOut_114 (by decide) ?_
                                  refine z_istore_n C [(3, .int (z_I 1)), (6, .int (z_I i)), (5, .int (z_I (z_mn ln sg (q + 1)))), (4, .int (z_I 0)), (2, .int (z_I q)), (1, .int (z_I n2)), (0, .ref hM)] dX7_carryOut_118 (by decide) rfl ?_
                                  refine z_iload_n C 5 dX7_carryOut_119 rfl ?_
                                  refine z_iload_n C 0 dX7_carryOut_120 rfl ?_
                                  refine z_if_eq C 128 dX7_carryOut_121 (by decide) (by omega) (fun hc43 => ?_) (fun hc43 => ?_)
                                  · first
                                    | (exfalso; omega)
                                    | skip
                                      refine z_iconst C 0 dX7_carryOut_128 ?_
                                      refine z_iadd C dX7_carryOut_129 ?_
                                      refine z_istore_n C [(1, .int (z_I (n2 + 0))), (3, .int (z_I 1)), (6, .int (z_I i)), (5, .int (z_I (z_mn ln sg (q + 1)))), (4, .int (z_I 0)), (2, .int (z_I q)), (0, .ref hM)] dX7_carryOut_130 (by decide) rfl ?_
                                      refine z_iinc C 2 [(6, .int (z_I (i + 1))), (1, .int (z_I (n2 + 0))), (3, .int (z_I 1)), (5, .int (z_I (z_mn ln sg (q + 1)))), (4, .int (z_I 0)), (2, .int (z_I q)), (0, .ref hM)] dX7_carryOut_131 rfl (by decide) rfl ?_
                                      refine z_goto C 82 dX7_carryOut_134 (by decide) ?_
                                      refine z_lsub [(6, .int (z_I (i + 1))), (5, .int (z_I (z_mn ln sg (q + 1)))), (4, .int (z_I 0)), (3, .int (z_I 1)), (2, .int (z_I q)), (1, .int (z_I (n2 + 0))), (0, .ref hM)] [0, 3, 4, 2, 5, 1, 6] rfl ?_
                                      exact ih82 (i + 1) 1 (n2 + 0) ((z_c1 ln sg c2 q).1) u2 (by first | assumption | omega) (z_c1_ok hsgn hqo2 hqt2 (by omega)).1 (z_c1_ok hsgn hqo2 hqt2 (by omega)).2 hp2.1 (by have h9 := z_ci9_s hii (by omega) hp2.2.1; first | (rw [if_pos hz2] at h9; exact h9) | (rw [if_neg hz2] at h9; exact h9)) (by omega)
                                  · first
                                    | (exfalso; omega)
                                    | skip
                                      refine z_iconst C 1 dX7_carryOut_124 ?_
                                      refine z_goto C 129 dX7_carryOut_125 (by decide) ?_
                                      refine z_iadd C dX7_carryOut_129 ?_
                                      refine z_istore_n C [(1, .int (z_I (n2 + 1))), (3, .int (z_I 1)), (6, .int (z_I i)), (5, .int (z_I (z_mn ln sg (q + 1)))), (4, .int (z_I 0)), (2, .int (z_I q)), (0, .ref hM)] dX7_carryOut_130 (by decide) rfl ?_
                                      refine z_iinc C 2 [(6, .int (z_I (i + 1))), (1, .int (z_I (n2 + 1))), (3, .int (z_I 1)), (5, .int (z_I (z_mn ln sg (q + 1)))), (4, .int (z_I 0)), (2, .int (z_I q)), (0, .ref hM)] dX7_carryOut_131 rfl (by decide) rfl ?_
                                      refine z_goto C 82 dX7_carryOut_134 (by decide) ?_
                                      refine z_lsub [(6, .int (z_I (i + 1))), (5, .int (z_I (z_mn ln sg (q + 1)))), (4, .int (z_I 0)), (3, .int (z_I 1)), (2, .int (z_I q)), (1, .int (z_I (n2 + 1))), (0, .ref hM)] [0, 3, 4, 2, 5, 1, 6] rfl ?_
                                      exact ih82 (i + 1) 1 (n2 + 1) ((z_c1 ln sg c2 q).1) u2 (by first | assumption | omega) (z_c1_ok hsgn hqo2 hqt2 (by omega)).1 (z_c1_ok hsgn hqo2 hqt2 (by omega)).2 hp2.1 (by have h9 := z_ci9_s hii (by omega) hp2.2.1; first | (rw [if_pos hz2] at h9; exact h9) | (rw [if_neg hz2] at h9; exact h9)) (by omega)
                    exact loop82 102 0 go n cz g (by first | assumption | omega) hqo hqt hqr (by rw [hgo1]; exact ⟨⟨by omega, Or.inr rfl⟩, Or.inl ⟨rfl, by rw [Int.sub_zero]⟩⟩) (by omega)
              · skip
                have hoaM : z_oa ln sg q = z_mn ln sg (q + 1) := by rw [hoa, if_pos (by omega)]
                have hrow := fun (x : z_Ct) => z_c1_row (len := ln) (sg := sg) (k := q) (ct := x) hq.1 (show z_sg ln sg q = 99 by omega) (by omega)
                refine z_iconst C 1 dX7_carryOut_54 ?_
                refine z_goto C 59 dX7_carryOut_55 (by decide) ?_
                refine z_istore C [(4, .int (z_I 1)), (3, .int (z_I go)), (2, .int (z_I q)), (1, .int (z_I n)), (0, .ref hM)] dX7_carryOut_59 (by decide) rfl ?_
                refine z_iload C 0 dX7_carryOut_61 rfl ?_
                refine z_if_eq C 76 dX7_carryOut_63 (by decide) (by omega) (fun hc44 => ?_) (fun hc44 => ?_)
                · first
                  | (exfalso; omega)
                  | skip
                    refine z_iconst C 1 dX7_carryOut_76 ?_
                    refine z_istore C [(5, .int (z_I 1)), (4, .int (z_I 1)), (3, .int (z_I go)), (2, .int (z_I q)), (1, .int (z_I n)), (0, .ref hM)] dX7_carryOut_77 (by decide) rfl ?_
                    refine z_iconst C 0 dX7_carryOut_79 ?_
                    refine z_istore C [(6, .int (z_I 0)), (5, .int (z_I 1)), (4, .int (z_I 1)), (3, .int (z_I go)), (2, .int (z_I q)), (1, .int (z_I n)), (0, .ref hM)] dX7_carryOut_80 (by decide) rfl ?_
                    have loop82 : ∀ (zn : Nat) (i : Int) (go2 : Int) (n2 : Int) (c2 : z_Ct) (g2 : Int → Int), 0 ≤ i ∧ (i ≤ z_oa ln sg q ∨ i = 0) → z_ok c2 → c2.1.1 ≤ 9999 → z_rel c2 0 g2 → z_ci9 ln sg cz n q (z_oa ln sg q) go2 c2 n2 i → (z_oa ln sg q - i + 1) < (zn : Int) → z_V p l e { frames := 6, cells := 0, slots := 0, locals := 140 } s m args below meth c D A 7 0 0 Q [(hM, .inr (7, [.ref aS, .ref aPa, .int (z_I (if kn = 6 then 6 else kn + 1)), .ref aSl, .ref aSv, .ref aPd, .int (z_I ln)])), (aS, z_ai cI 712 g2), (aPa, z_ai cI 2136 (z_rem f pf kn)), (aPd, z_ai cI 80 pd)] 82 [(6, .int (z_I i)), (5, .int (z_I 1)), (4, .int (z_I 1)), (3, .int (z_I go2)), (2, .int (z_I q)), (1, .int (z_I n2)), (0, .ref hM)] [] := by
                      intro zn
                      induction zn with
                      | zero => intro i go2 n2 c2 g2 hi hqo2 hqt2 hqr2 hii hm82; exact absurd hm82 (by omega)
                      | succ zn82 ih82 =>
                        intro i go2 n2 c2 g2 hi hqo2 hqt2 hqr2 hii hm82
                        have hgo2 : go2 = 0 ∨ go2 = 1 := by rcases hii.2 with h9 | h9 <;> omega
                        refine z_iload C 0 dX7_carryOut_82 rfl ?_
                        refine z_iload C 1 dX7_carryOut_84 rfl ?_
                        refine z_icmp_ge C 137 dX7_carryOut_86 (by decide) (by omega) (by omega) (fun hc45 => ?_) (fun hc45 => ?_)
                        · skip
                          refine z_aload_n C 6 dX7_carryOut_137 rfl ?_
                          refine z_iload_n C 4 dX7_carryOut_138 rfl ?_
                          refine z_callVi C [0, 3] [(hM, .inr (7, [.ref aS, .ref aPa, .int (z_I (if kn = 6 then 6 else kn + 1)), .ref aSl, .ref aSv, .ref aPd, .int (z_I ln)])), (aS, z_ai cI 712 g2), (aPa, z_ai cI 2136 (z_rem f pf kn)), (aPd, z_ai cI 80 pd)] [.int (z_I q)] [] (c_X7_orderEnd l D cI cZ cO hM aS aPa aSl aSv aPd (if kn = 6 then 6 else kn + 1) ln sg pd q (by first | assumption | omega) (by first | assumption | omega) (by first | assumption | omega) (by first | assumption | omega)) gX7_carryOut_X7_orderEnd rfl zd_X7_orderEnd rfl (by decide) rfl rfl rfl (by decide) rfl rfl rfl (Nat.le_of_ble_eq_true rfl) (by decide) dX7_carryOut_139 ?_
                          refine z_iconst C 1 dX7_carryOut_142 ?_
                          refine z_iadd C dX7_carryOut_143 ?_
                          refine z_istore_n C [(2, .int (z_I ((z_oe ln sg q) + 1))), (6, .int (z_I i)), (5, .int (z_I 1)), (4, .int (z_I 1)), (3, .int (z_I go2)), (1, .int (z_I n2)), (0, .ref hM)] dX7_carryOut_144 (by decide) rfl ?_
                          refine z_goto C 22 dX7_carryOut_145 (by decide) ?_
                          refine z_lsub [(3, .int (z_I go2)), (2, .int (z_I ((z_oe ln sg q) + 1))), (1, .int (z_I n2)), (0, .ref hM)] [4, 0, 5, 6] rfl ?_
                          exact ih22 n2 ((z_oe ln sg q) + 1) go2 c2 g2 (by first | assumption | omega) hqo2 hqt2 hqr2 (z_cs9_n hcs (by omega) hii (by omega)) (by omega)
                        · skip
                          refine z_iload_n C 3 dX7_carryOut_89 rfl ?_
                          refine z_if_eq C 137 dX7_carryOut_90 (by decide) (by omega) (fun hc46 => ?_) (fun hc46 => ?_)
                          · skip
                            refine z_aload_n C 6 dX7_carryOut_137 rfl ?_
                            refine z_iload_n C 4 dX7_carryOut_138 rfl ?_
                            refine z_callVi C [0, 3] [(hM, .inr (7, [.ref aS, .ref aPa, .int (z_I (if kn = 6 then 6 else kn + 1)), .ref aSl, .ref aSv, .ref aPd, .int (z_I ln)])), (aS, z_ai cI 712 g2), (aPa, z_ai cI 2136 (z_rem f pf kn)), (aPd, z_ai cI 80 pd)] [.int (z_I q)] [] (c_X7_orderEnd l D cI cZ cO hM aS aPa aSl aSv aPd (if kn = 6 then 6 else kn + 1) ln sg pd q (by first | assumption | omega) (by first | assumption | omega) (by first | assumption | omega) (by first | assumption | omega)) gX7_carryOut_X7_orderEnd rfl zd_X7_orderEnd rfl (by decide) rfl rfl rfl (by decide) rfl rfl rfl (Nat.le_of_ble_eq_true rfl) (by decide) dX7_carryOut_139 ?_
                            refine z_iconst C 1 dX7_carryOut_142 ?_
                            refine z_iadd C dX7_carryOut_143 ?_
                            refine z_istore_n C [(2, .int (z_I ((z_oe ln sg q) + 1))), (6, .int (z_I i)), (5, .int (z_I 1)), (4, .int (z_I 1)), (3, .int (z_I go2)), (1, .int (z_I n2)), (0, .ref hM)] dX7_carryOut_144 (by decide) rfl ?_
                            refine z_goto C 22 dX7_carryOut_145 (by decide) ?_
                            refine z_lsub [(3, .int (z_I go2)), (2, .int (z_I ((z_oe ln sg q) + 1))), (1, .int (z_I n2)), (0, .ref hM)] [4, 0, 5, 6] rfl ?_
                            exact ih22 n2 ((z_oe ln sg q) + 1) go2 c2 g2 (by first | assumption | omega) hqo2 hqt2 hqr2 (z_cs9_n hcs (by omega) hii (by omega)) (by omega)
                          · skip
                            have hg21 : go2 = 1 := by omega
                            rw [hg21] at hii
                            refine z_iload C 2 dX7_carryOut_93 rfl ?_
                            refine z_if_eq C 105 dX7_carryOut_95 (by decide) (by omega) (fun hc47 => ?_) (fun hc47 => ?_)
                            · first
                              | (exfalso; omega)
                              | skip
                                refine z_aload_n C 6 dX7_carryOut_105 rfl ?_
                                refine z_iload_n C 4 dX7_carryOut_106 rfl ?_
                                refine z_callEi C [0, 1, 3] (fun u2 => [(hM, .inr (7, [.ref aS, .ref aPa, .int (z_I (if kn = 6 then 6 else kn + 1)), .ref aSl, .ref aSv, .ref aPd, .int (z_I ln)])), (aS, z_ai cI 712 u2), (aPa, z_ai cI 2136 (z_rem f pf kn)), (aPd, z_ai cI 80 pd)]) [.int (z_I q)] [] (c_X7_carries l D cI cZ cO hM aS aPa aSl aSv aPd (if kn = 6 then 6 else kn + 1) ln g2 sg pd c2 q hqr2 hqo2 hqt2 (by first | assumption | omega) (by first | assumption | omega) (by first | assumption | omega) (by first | assumption | omega) hst9 (by omega)) gX7_carryOut_X7_carries rfl zd_X7_carries rfl (by decide) rfl rfl rfl (by decide) (fun _ => rfl) (fun _ => rfl) rfl (Nat.le_of_ble_eq_true rfl) (by decide) dX7_carryOut_107 (fun u2 ri2 hp2 => ?_)
                                refine z_if_ne C 117 dX7_carryOut_110 (by decide) (by omega) (fun hc48 => ?_) (fun hc48 => ?_)
                                · skip
                                  have hz2 : ¬ ri2 = 0 := hc48
                                  refine z_iconst C 0 dX7_carryOut_117 ?_
                                  refine z_istore_n C [(3, .int (z_I 0)), (6, .int (z_I i)), (5, .int (z_I 1)), (4, .int (z_I 1)), (2, .int (z_I q)), (1, .int (z_I n2)), (0, .ref hM)] dX7_carryOut_118 (by decide) rfl ?_
                                  refine z_iload_n C 5 dX7_carryOut_119 rfl ?_
                                  refine z_iload_n C 0 dX7_carryOut_120 rfl ?_
                                  refine z_if_eq C 128 dX7_carryOut_121 (by decide) (by omega) (fun hc49 => ?_) (fun hc49 => ?_)
                                  · first
                                    | (exfalso; omega)
                                    | skip
                                      refine z_iconst C 0 dX7_carryOut_128 ?_
                                      refine z_iadd C dX7_carryOut_129 ?_
                                      refine z_istore_n C [(1, .int (z_I (n2 + 0))), (3, .int (z_I 0)), (6, .int (z_I i)), (5, .int (z_I 1)), (4, .int (z_I 1)), (2, .int (z_I q)), (0, .ref hM)] dX7_carryOut_130 (by decide) rfl ?_
                                      refine z_iinc C 2 [(6, .int (z_I (i + 1))), (1, .int (z_I (n2 + 0))), (3, .int (z_I 0)), (5, .int (z_I 1)), (4, .int (z_I 1)), (2, .int (z_I q)), (0, .ref hM)] dX7_carryOut_131 rfl (by decide) rfl ?_
                                      refine z_goto C 82 dX7_carryOut_134 (by decide) ?_
                                      refine z_lsub [(6, .int (z_I (i + 1))), (5, .int (z_I 1)), (4, .int (z_I 1)), (3, .int (z_I 0)), (2, .int (z_I q)), (1, .int (z_I (n2 + 0))), (0, .ref hM)] [0, 3, 4, 2, 5, 1, 6] rfl ?_
                                      exact ih82 (i + 1) 0 (n2 + 0) ((z_c1 ln sg c2 q).1) u2 (by first | assumption | omega) (z_c1_ok hsgn hqo2 hqt2 (by omega)).1 (z_c1_ok hsgn hqo2 hqt2 (by omega)).2 hp2.1 (by have h9 := z_ci9_s hii (by omega) hp2.2.1; first | (rw [if_pos hz2] at h9; exact h9) | (rw [if_neg hz2] at h9; exact h9)) (by omega)
                                  · first
                                    | (exfalso; omega)
                                    | skip
                                      refine z_iconst C 1 dX7_carryOut_124 ?_
                                      refine z_goto C 129 dX7_carryOut_125 (by decide) ?_
                                      refine z_iadd C dX7_carryOut_129 ?_
                                      refine z_istore_n C [(1, .int (z_I (n2 + 1))), (3, .int (z_I 0)), (6, .int (z_I i)), (5, .int (z_I 1)), (4, .int (z_I 1)), (2, .int (z_I q)), (0, .ref hM)] dX7_carryOut_130 (by decide) rfl ?_
                                      refine z_iinc C 2 [(6, .int (z_I (i + 1))), (1, .int (z_I (n2 + 1))), (3, .int (z_I 0)), (5, .int (z_I 1)), (4, .int (z_I 1)), (2, .int (z_I q)), (0, .ref hM)] dX7_carryOut_131 rfl (by decide) rfl ?_
                                      refine z_goto C 82 dX7_carryOut_134 (by decide) ?_
                                      refine z_lsub [(6, .int (z_I (i + 1))), (5, .int (z_I 1)), (4, .int (z_I 1)), (3, .int (z_I 0)), (2, .int (z_I q)), (1, .int (z_I (n2 + 1))), (0, .ref hM)] [0, 3, 4, 2, 5, 1, 6] rfl ?_
                                      exact ih82 (i + 1) 0 (n2 + 1) ((z_c1 ln sg c2 q).1) u2 (by first | assumption | omega) (z_c1_ok hsgn hqo2 hqt2 (by omega)).1 (z_c1_ok hsgn hqo2 hqt2 (by omega)).2 hp2.1 (by have h9 := z_ci9_s hii (by omega) hp2.2.1; first | (rw [if_pos hz2] at h9; exact h9) | (rw [if_neg hz2] at h9; exact h9)) (by omega)
                                · skip
                                  have hz2 : ri2 = 0 := by omega
                                  refine z_iconst C 1 dX7_carryOut_113 ?_
                                  refine z_goto C 118 dX7_carryOut_114 (by decide) ?_
                                  refine z_istore_n C [(3, .int (z_I 1)), (6, .int (z_I i)), (5, .int (z_I 1)), (4, .int (z_I 1)), (2, .int (z_I q)), (1, .int (z_I n2)), (0, .ref hM)] dX7_carryOut_118 (by decide) rfl ?_
                                  refine z_iload_n C 5 dX7_carryOut_119 rfl ?_
                                  refine z_iload_n C 0 dX7_carryOut_120 rfl ?_
                                  refine z_if_eq C 128 dX7_carryOut_121 (by decide) (by omega) (fun hc50 => ?_) (fun hc50 => ?_)
                                  · first
                                    | (exfalso; omega)
                                    | skip
                                      refine z_iconst C 0 dX7_carryOut_128 ?_
                                      refine z_iadd C dX7_carryOut_129 ?_
                                      refine z_istore_n C [(1, .int (z_I (n2 + 0))), (3, .int (z_I 1)), (6, .int (z_I i)), (5, .int (z_I 1)), (4, .int (z_I 1)), (2, .int (z_I q)), (0, .ref hM)] dX7_carryOut_130 (by decide) rfl ?_
                                      refine z_iinc C 2 [(6, .int (z_I (i + 1))), (1, .int (z_I (n2 + 0))), (3, .int (z_I 1)), (5, .int (z_I 1)), (4, .int (z_I 1)), (2, .int (z_I q)), (0, .ref hM)] dX7_carryOut_131 rfl (by decide) rfl ?_
                                      refine z_goto C 82 dX7_carryOut_134 (by decide) ?_
                                      refine z_lsub [(6, .int (z_I (i + 1))), (5, .int (z_I 1)), (4, .int (z_I 1)), (3, .int (z_I 1)), (2, .int (z_I q)), (1, .int (z_I (n2 + 0))), (0, .ref hM)] [0, 3, 4, 2, 5, 1, 6] rfl ?_
                                      exact ih82 (i + 1) 1 (n2 + 0) ((z_c1 ln sg c2 q).1) u2 (by first | assumption | omega) (z_c1_ok hsgn hqo2 hqt2 (by omega)).1 (z_c1_ok hsgn hqo2 hqt2 (by omega)).2 hp2.1 (by have h9 := z_ci9_s hii (by omega) hp2.2.1; first | (rw [if_pos hz2] at h9; exact h9) | (rw [if_neg hz2] at h9; exact h9)) (by omega)
                                  · first
                                    | (exfalso; omega)
                                    | skip
                                      refine z_iconst C 1 dX7_carryOut_124 ?_
                                      refine z_goto C 129 dX7_carryOut_125 (by decide) ?_
                                      refine z_iadd C dX7_carryOut_129 ?_
                                      refine z_istore_n C [(1, .int (z_I (n2 + 1))), (3, .int (z_I 1)), (6, .int (z_I i)), (5, .int (z_I 1)), (4, .int (z_I 1)), (2, .int (z_I q)), (0, .ref hM)] dX7_carryOut_130 (by decide) rfl ?_
                                      refine z_iinc C 2 [(6, .int (z_I (i + 1))), (1, .int (z_I (n2 + 1))), (3, .int (z_I 1)), (5, .int (z_I 1)), (4, .int (z_I 1)), (2, .int (z_I q)), (0, .ref hM)] dX7_carryOut_131 rfl (by decide) rfl ?_
                                      refine z_goto C 82 dX7_carryOut_134 (by decide) ?_
                                      refine z_lsub [(6, .int (z_I (i + 1))), (5, .int (z_I 1)), (4, .int (z_I 1)), (3, .int (z_I 1)), (2, .int (z_I q)), (1, .int (z_I (n2 + 1))), (0, .ref hM)] [0, 3, 4, 2, 5, 1, 6] rfl ?_
                                      exact ih82 (i + 1) 1 (n2 + 1) ((z_c1 ln sg c2 q).1) u2 (by first | assumption | omega) (z_c1_ok hsgn hqo2 hqt2 (by omega)).1 (z_c1_ok hsgn hqo2 hqt2 (by omega)).2 hp2.1 (by have h9 := z_ci9_s hii (by omega) hp2.2.1; first | (rw [if_pos hz2] at h9; exact h9) | (rw [if_neg hz2] at h9; exact h9)) (by omega)
                            · first
                              | (exfalso; omega)
                              | skip
                                refine z_aload_n C 6 dX7_carryOut_98 rfl ?_
                                refine z_callEi C [0, 1] (fun u2 => [(hM, .inr (7, [.ref aS, .ref aPa, .int (z_I (if kn = 6 then 6 else kn + 1)), .ref aSl, .ref aSv, .ref aPd, .int (z_I ln)])), (aS, z_ai cI 712 u2), (aPa, z_ai cI 2136 (z_rem f pf kn)), (aPd, z_ai cI 80 pd)]) [] [] (c_X7_ticks l D cI cZ cO hM aS aPa aSl aSv aPd (if kn = 6 then 6 else kn + 1) ln g2 c2 hqr2 hqo2 hqt2) gX7_carryOut_X7_ticks rfl zd_X7_ticks rfl (by decide) rfl rfl rfl (by decide) (fun _ => rfl) (fun _ => rfl) rfl (Nat.le_of_ble_eq_true rfl) (by decide) dX7_carryOut_99 (fun u2 ri2 hp2 => ?_)
                                rw [← hrow c2] at hp2
                                refine z_goto C 110 dX7_carryOut_102 (by decide) ?_
                                refine z_if_ne C 117 dX7_carryOut_110 (by decide) (by omega) (fun hc51 => ?_) (fun hc51 => ?_)
                                · skip
                                  have hz2 : ¬ ri2 = 0 := hc51
                                  refine z_iconst C 0 dX7_carryOut_117 ?_
                                  refine z_istore_n C [(3, .int (z_I 0)), (6, .int (z_I i)), (5, .int (z_I 1)), (4, .int (z_I 1)), (2, .int (z_I q)), (1, .int (z_I n2)), (0, .ref hM)] dX7_carryOut_118 (by decide) rfl ?_
                                  refine z_iload_n C 5 dX7_carryOut_119 rfl ?_
                                  refine z_iload_n C 0 dX7_carryOut_120 rfl ?_
                                  refine z_if_eq C 128 dX7_carryOut_121 (by decide) (by omega) (fun hc52 => ?_) (fun hc52 => ?_)
                                  · first
                                    | (exfalso; omega)
                                    | skip
                                      refine z_iconst C 0 dX7_carryOut_128 ?_
                                      refine z_iadd C dX7_carryOut_129 ?_
                                      refine z_istore_n C [(1, .int (z_I (n2 + 0))), (3, .int (z_I 0)), (6, .int (z_I i)), (5, .int (z_I 1)), (4, .int (z_I 1)), (2, .int (z_I q)), (0, .ref hM)] dX7_carryOut_130 (by decide) rfl ?_
                                      refine z_iinc C 2 [(6, .int (z_I (i + 1))), (1, .int (z_I (n2 + 0))), (3, .int (z_I 0)), (5, .int (z_I 1)), (4, .int (z_I 1)), (2, .int (z_I q)), (0, .ref hM)] dX7_carryOut_131 rfl (by decide) rfl ?_
                                      refine z_goto C 82 dX7_carryOut_134 (by decide) ?_
                                      refine z_lsub [(6, .int (z_I (i + 1))), (5, .int (z_I 1)), (4, .int (z_I 1)), (3, .int (z_I 0)), (2, .int (z_I q)), (1, .int (z_I (n2 + 0))), (0, .ref hM)] [0, 3, 4, 2, 5, 1, 6] rfl ?_
                                      exact ih82 (i + 1) 0 (n2 + 0) ((z_c1 ln sg c2 q).1) u2 (by first | assumption | omega) (z_c1_ok hsgn hqo2 hqt2 (by omega)).1 (z_c1_ok hsgn hqo2 hqt2 (by omega)).2 hp2.1 (by have h9 := z_ci9_s hii (by omega) hp2.2.1; first | (rw [if_pos hz2] at h9; exact h9) | (rw [if_neg hz2] at h9; exact h9)) (by omega)
                                  · first
                                    | (exfalso; omega)
                                    | skip
                                      refine z_iconst C 1 dX7_carryOut_124 ?_
                                      refine z_goto C 129 dX7_carryOut_125 (by decide) ?_
                                      refine z_iadd C dX7_carryOut_129 ?_
                                      refine z_istore_n C [(1, .int (z_I (n2 + 1))), (3, .int (z_I 0)), (6, .int (z_I i)), (5, .int (z_I 1)), (4, .int (z_I 1)), (2, .int (z_I q)), (0, .ref hM)] dX7_carryOut_130 (by decide) rfl ?_
                                      refine z_iinc C 2 [(6, .int (z_I (i + 1))), (1, .int (z_I (n2 + 1))), (3, .int (z_I 0)), (5, .int (z_I 1)), (4, .int (z_I 1)), (2, .int (z_I q)), (0, .ref hM)] dX7_carryOut_131 rfl (by decide) rfl ?_
                                      refine z_goto C 82 dX7_carryOut_134 (by decide) ?_
                                      refine z_lsub [(6, .int (z_I (i + 1))), (5, .int (z_I 1)), (4, .int (z_I 1)), (3, .int (z_I 0)), (2, .int (z_I q)), (1, .int (z_I (n2 + 1))), (0, .ref hM)] [0, 3, 4, 2, 5, 1, 6] rfl ?_
                                      exact ih82 (i + 1) 0 (n2 + 1) ((z_c1 ln sg c2 q).1) u2 (by first | assumption | omega) (z_c1_ok hsgn hqo2 hqt2 (by omega)).1 (z_c1_ok hsgn hqo2 hqt2 (by omega)).2 hp2.1 (by have h9 := z_ci9_s hii (by omega) hp2.2.1; first | (rw [if_pos hz2] at h9; exact h9) | (rw [if_neg hz2] at h9; exact h9)) (by omega)
                                · skip
                                  have hz2 : ri2 = 0 := by omega
                                  refine z_iconst C 1 dX7_carryOut_113 ?_
                                  refine z_goto C 118 dX7_carryOut_114 (by decide) ?_
                                  refine z_istore_n C [(3, .int (z_I 1)), (6, .int (z_I i)), (5, .int (z_I 1)), (4, .int (z_I 1)), (2, .int (z_I q)), (1, .int (z_I n2)), (0, .ref hM)] dX7_carryOut_118 (by decide) rfl ?_
                                  refine z_iload_n C 5 dX7_carryOut_119 rfl ?_
                                  refine z_iload_n C 0 dX7_carryOut_120 rfl ?_
                                  refine z_if_eq C 128 dX7_carryOut_121 (by decide) (by omega) (fun hc53 => ?_) (fun hc53 => ?_)
                                  · first
                                    | (exfalso; omega)
                                    | skip
                                      refine z_iconst C 0 dX7_carryOut_128 ?_
                                      refine z_iadd C dX7_carryOut_129 ?_
                                      refine z_istore_n C [(1, .int (z_I (n2 + 0))), (3, .int (z_I 1)), (6, .int (z_I i)), (5, .int (z_I 1)), (4, .int (z_I 1)), (2, .int (z_I q)), (0, .ref hM)] dX7_carryOut_130 (by decide) rfl ?_
                                      refine z_iinc C 2 [(6, .int (z_I (i + 1))), (1, .int (z_I (n2 + 0))), (3, .int (z_I 1)), (5, .int (z_I 1)), (4, .int (z_I 1)), (2, .int (z_I q)), (0, .ref hM)] dX7_carryOut_131 rfl (by decide) rfl ?_
                                      refine z_goto C 82 dX7_carryOut_134 (by decide) ?_
                                      refine z_lsub [(6, .int (z_I (i + 1))), (5, .int (z_I 1)), (4, .int (z_I 1)), (3, .int (z_I 1)), (2, .int (z_I q)), (1, .int (z_I (n2 + 0))), (0, .ref hM)] [0, 3, 4, 2, 5, 1, 6] rfl ?_
                                      exact ih82 (i + 1) 1 (n2 + 0) ((z_c1 ln sg c2 q).1) u2 (by first | assumption | omega) (z_c1_ok hsgn hqo2 hqt2 (by omega)).1 (z_c1_ok hsgn hqo2 hqt2 (by omega)).2 hp2.1 (by have h9 := z_ci9_s hii (by omega) hp2.2.1; first | (rw [if_pos hz2] at h9; exact h9) | (rw [if_neg hz2] at h9; exact h9)) (by omega)
                                  · first
                                    | (exfalso; omega)
                                    | skip
                                      refine z_iconst C 1 dX7_carryOut_124 ?_
                                      refine z_goto C 129 dX7_carryOut_125 (by decide) ?_
                                      refine z_iadd C dX7_carryOut_129 ?_
                                      refine z_istore_n C [(1, .int (z_I (n2 + 1))), (3, .int (z_I 1)), (6, .int (z_I i)), (5, .int (z_I 1)), (4, .int (z_I 1)), (2, .int (z_I q)), (0, .ref hM)] dX7_carryOut_130 (by decide) rfl ?_
                                      refine z_iinc C 2 [(6, .int (z_I (i + 1))), (1, .int (z_I (n2 + 1))), (3, .int (z_I 1)), (5, .int (z_I 1)), (4, .int (z_I 1)), (2, .int (z_I q)), (0, .ref hM)] dX7_carryOut_131 rfl (by decide) rfl ?_
                                      refine z_goto C 82 dX7_carryOut_134 (by decide) ?_
                                      refine z_lsub [(6, .int (z_I (i + 1))), (5, .int (z_I 1)), (4, .int (z_I 1)), (3, .int (z_I 1)), (2, .int (z_I q)), (1, .int (z_I (n2 + 1))), (0, .ref hM)] [0, 3, 4, 2, 5, 1, 6] rfl ?_
                                      exact ih82 (i + 1) 1 (n2 + 1) ((z_c1 ln sg c2 q).1) u2 (by first | assumption | omega) (z_c1_ok hsgn hqo2 hqt2 (by omega)).1 (z_c1_ok hsgn hqo2 hqt2 (by omega)).2 hp2.1 (by have h9 := z_ci9_s hii (by omega) hp2.2.1; first | (rw [if_pos hz2] at h9; exact h9) | (rw [if_neg hz2] at h9; exact h9)) (by omega)
                    exact loop82 102 0 go n cz g (by first | assumption | omega) hqo hqt hqr (by rw [hgo1]; exact ⟨⟨by omega, Or.inr rfl⟩, Or.inl ⟨rfl, by rw [Int.sub_zero]⟩⟩) (by omega)
                · first
                  | (exfalso; omega)
                  | skip
                    refine z_aload_n C 4 dX7_carryOut_66 rfl ?_
                    refine z_iload_n C 2 dX7_carryOut_67 rfl ?_
                    refine z_iconst C 1 dX7_carryOut_68 ?_
                    refine z_iadd C dX7_carryOut_69 ?_
                    refine z_callVi C [0, 3] [(hM, .inr (7, [.ref aS, .ref aPa, .int (z_I (if kn = 6 then 6 else kn + 1)), .ref aSl, .ref aSv, .ref aPd, .int (z_I ln)])), (aS, z_ai cI 712 g), (aPa, z_ai cI 2136 (z_rem f pf kn)), (aPd, z_ai cI 80 pd)] [.int (z_I (q + 1))] [] (c_X7_numberAt l D cI cZ cO hM aS aPa aSl aSv aPd (if kn = 6 then 6 else kn + 1) ln sg pd (q + 1) (by first | assumption | omega) (by first | assumption | omega) (by first | assumption | omega) (by first | assumption | omega)) gX7_carryOut_X7_numberAt rfl zd_X7_numberAt rfl (by decide) rfl rfl rfl (by decide) rfl rfl rfl (Nat.le_of_ble_eq_true rfl) (by decide) dX7_carryOut_70 ?_
                    refine z_goto C 77 dX7_carryOut_73 (by decide) ?_
                    refine z_istore C [(5, .int (z_I (z_mn ln sg (q + 1)))), (4, .int (z_I 1)), (3, .int (z_I go)), (2, .int (z_I q)), (1, .int (z_I n)), (0, .ref hM)] dX7_carryOut_77 (by decide) rfl ?_
                    refine z_iconst C 0 dX7_carryOut_79 ?_
                    refine z_istore C [(6, .int (z_I 0)), (5, .int (z_I (z_mn ln sg (q + 1)))), (4, .int (z_I 1)), (3, .int (z_I go)), (2, .int (z_I q)), (1, .int (z_I n)), (0, .ref hM)] dX7_carryOut_80 (by decide) rfl ?_
                    have loop82 : ∀ (zn : Nat) (i : Int) (go2 : Int) (n2 : Int) (c2 : z_Ct) (g2 : Int → Int), 0 ≤ i ∧ (i ≤ z_oa ln sg q ∨ i = 0) → z_ok c2 → c2.1.1 ≤ 9999 → z_rel c2 0 g2 → z_ci9 ln sg cz n q (z_oa ln sg q) go2 c2 n2 i → (z_oa ln sg q - i + 1) < (zn : Int) → z_V p l e { frames := 6, cells := 0, slots := 0, locals := 140 } s m args below meth c D A 7 0 0 Q [(hM, .inr (7, [.ref aS, .ref aPa, .int (z_I (if kn = 6 then 6 else kn + 1)), .ref aSl, .ref aSv, .ref aPd, .int (z_I ln)])), (aS, z_ai cI 712 g2), (aPa, z_ai cI 2136 (z_rem f pf kn)), (aPd, z_ai cI 80 pd)] 82 [(6, .int (z_I i)), (5, .int (z_I (z_mn ln sg (q + 1)))), (4, .int (z_I 1)), (3, .int (z_I go2)), (2, .int (z_I q)), (1, .int (z_I n2)), (0, .ref hM)] [] := by
                      intro zn
                      induction zn with
                      | zero => intro i go2 n2 c2 g2 hi hqo2 hqt2 hqr2 hii hm82; exact absurd hm82 (by omega)
                      | succ zn82 ih82 =>
                        intro i go2 n2 c2 g2 hi hqo2 hqt2 hqr2 hii hm82
                        have hgo2 : go2 = 0 ∨ go2 = 1 := by rcases hii.2 with h9 | h9 <;> omega
                        refine z_iload C 0 dX7_carryOut_82 rfl ?_
                        refine z_iload C 1 dX7_carryOut_84 rfl ?_
                        refine z_icmp_ge C 137 dX7_carryOut_86 (by decide) (by omega) (by omega) (fun hc54 => ?_) (fun hc54 => ?_)
                        · skip
                          refine z_aload_n C 6 dX7_carryOut_137 rfl ?_
                          refine z_iload_n C 4 dX7_carryOut_138 rfl ?_
                          refine z_callVi C [0, 3] [(hM, .inr (7, [.ref aS, .ref aPa, .int (z_I (if kn = 6 then 6 else kn + 1)), .ref aSl, .ref aSv, .ref aPd, .int (z_I ln)])), (aS, z_ai cI 712 g2), (aPa, z_ai cI 2136 (z_rem f pf kn)), (aPd, z_ai cI 80 pd)] [.int (z_I q)] [] (c_X7_orderEnd l D cI cZ cO hM aS aPa aSl aSv aPd (if kn = 6 then 6 else kn + 1) ln sg pd q (by first | assumption | omega) (by first | assumption | omega) (by first | assumption | omega) (by first | assumption | omega)) gX7_carryOut_X7_orderEnd rfl zd_X7_orderEnd rfl (by decide) rfl rfl rfl (by decide) rfl rfl rfl (Nat.le_of_ble_eq_true rfl) (by decide) dX7_carryOut_139 ?_
                          refine z_iconst C 1 dX7_carryOut_142 ?_
                          refine z_iadd C dX7_carryOut_143 ?_
                          refine z_istore_n C [(2, .int (z_I ((z_oe ln sg q) + 1))), (6, .int (z_I i)), (5, .int (z_I (z_mn ln sg (q + 1)))), (4, .int (z_I 1)), (3, .int (z_I go2)), (1, .int (z_I n2)), (0, .ref hM)] dX7_carryOut_144 (by decide) rfl ?_
                          refine z_goto C 22 dX7_carryOut_145 (by decide) ?_
                          refine z_lsub [(3, .int (z_I go2)), (2, .int (z_I ((z_oe ln sg q) + 1))), (1, .int (z_I n2)), (0, .ref hM)] [4, 0, 5, 6] rfl ?_
                          exact ih22 n2 ((z_oe ln sg q) + 1) go2 c2 g2 (by first | assumption | omega) hqo2 hqt2 hqr2 (z_cs9_n hcs (by omega) hii (by omega)) (by omega)
                        · skip
                          refine z_iload_n C 3 dX7_carryOut_89 rfl ?_
                          refine z_if_eq C 137 dX7_carryOut_90 (by decide) (by omega) (fun hc55 => ?_) (fun hc55 => ?_)
                          · skip
                            refine z_aload_n C 6 dX7_carryOut_137 rfl ?_
                            refine z_iload_n C 4 dX7_carryOut_138 rfl ?_
                            refine z_callVi C [0, 3] [(hM, .inr (7, [.ref aS, .ref aPa, .int (z_I (if kn = 6 then 6 else kn + 1)), .ref aSl, .ref aSv, .ref aPd, .int (z_I ln)])), (aS, z_ai cI 712 g2), (aPa, z_ai cI 2136 (z_rem f pf kn)), (aPd, z_ai cI 80 pd)] [.int (z_I q)] [] (c_X7_orderEnd l D cI cZ cO hM aS aPa aSl aSv aPd (if kn = 6 then 6 else kn + 1) ln sg pd q (by first | assumption | omega) (by first | assumption | omega) (by first | assumption | omega) (by first | assumption | omega)) gX7_carryOut_X7_orderEnd rfl zd_X7_orderEnd rfl (by decide) rfl rfl rfl (by decide) rfl rfl rfl (Nat.le_of_ble_eq_true rfl) (by decide) dX7_carryOut_139 ?_
                            refine z_iconst C 1 dX7_carryOut_142 ?_
                            refine z_iadd C dX7_carryOut_143 ?_
                            refine z_istore_n C [(2, .int (z_I ((z_oe ln sg q) + 1))), (6, .int (z_I i)), (5, .int (z_I (z_mn ln sg (q + 1)))), (4, .int (z_I 1)), (3, .int (z_I go2)), (1, .int (z_I n2)), (0, .ref hM)] dX7_carryOut_144 (by decide) rfl ?_
                            refine z_goto C 22 dX7_carryOut_145 (by decide) ?_
                            refine z_lsub [(3, .int (z_I go2)), (2, .int (z_I ((z_oe ln sg q) + 1))), (1, .int (z_I n2)), (0, .ref hM)] [4, 0, 5, 6] rfl ?_
                            exact ih22 n2 ((z_oe ln sg q) + 1) go2 c2 g2 (by first | assumption | omega) hqo2 hqt2 hqr2 (z_cs9_n hcs (by omega) hii (by omega)) (by omega)
                          · skip
                            have hg21 : go2 = 1 := by omega
                            rw [hg21] at hii
                            refine z_iload C 2 dX7_carryOut_93 rfl ?_
                            refine z_if_eq C 105 dX7_carryOut_95 (by decide) (by omega) (fun hc56 => ?_) (fun hc56 => ?_)
                            · first
                              | (exfalso; omega)
                              | skip
                                refine z_aload_n C 6 dX7_carryOut_105 rfl ?_
                                refine z_iload_n C 4 dX7_carryOut_106 rfl ?_
                                refine z_callEi C [0, 1, 3] (fun u2 => [(hM, .inr (7, [.ref aS, .ref aPa, .int (z_I (if kn = 6 then 6 else kn + 1)), .ref aSl, .ref aSv, .ref aPd, .int (z_I ln)])), (aS, z_ai cI 712 u2), (aPa, z_ai cI 2136 (z_rem f pf kn)), (aPd, z_ai cI 80 pd)]) [.int (z_I q)] [] (c_X7_carries l D cI cZ cO hM aS aPa aSl aSv aPd (if kn = 6 then 6 else kn + 1) ln g2 sg pd c2 q hqr2 hqo2 hqt2 (by first | assumption | omega) (by first | assumption | omega) (by first | assumption | omega) (by first | assumption | omega) hst9 (by omega)) gX7_carryOut_X7_carries rfl zd_X7_carries rfl (by decide) rfl rfl rfl (by decide) (fun _ => rfl) (fun _ => rfl) rfl (Nat.le_of_ble_eq_true rfl) (by decide) dX7_carryOut_107 (fun u2 ri2 hp2 => ?_)
                                refine z_if_ne C 117 dX7_carryOut_110 (by decide) (by omega) (fun hc57 => ?_) (fun hc57 => ?_)
                                · skip
                                  have hz2 : ¬ ri2 = 0 := hc57
                                  refine z_iconst C 0 dX7_carryOut_117 ?_
                                  refine z_istore_n C [(3, .int (z_I 0)), (6, .int (z_I i)), (5, .int (z_I (z_mn ln sg (q + 1)))), (4, .int (z_I 1)), (2, .int (z_I q)), (1, .int (z_I n2)), (0, .ref hM)] dX7_carryOut_118 (by decide) rfl ?_
                                  refine z_iload_n C 5 dX7_carryOut_119 rfl ?_
                                  refine z_iload_n C 0 dX7_carryOut_120 rfl ?_
                                  refine z_if_eq C 128 dX7_carryOut_121 (by decide) (by omega) (fun hc58 => ?_) (fun hc58 => ?_)
                                  · first
                                    | (exfalso; omega)
                                    | skip
                                      refine z_iconst C 0 dX7_carryOut_128 ?_
                                      refine z_iadd C dX7_carryOut_129 ?_
                                      refine z_istore_n C [(1, .int (z_I (n2 + 0))), (3, .int (z_I 0)), (6, .int (z_I i)), (5, .int (z_I (z_mn ln sg (q + 1)))), (4, .int (z_I 1)), (2, .int (z_I q)), (0, .ref hM)] dX7_carryOut_130 (by decide) rfl ?_
                                      refine z_iinc C 2 [(6, .int (z_I (i + 1))), (1, .int (z_I (n2 + 0))), (3, .int (z_I 0)), (5, .int (z_I (z_mn ln sg (q + 1)))), (4, .int (z_I 1)), (2, .int (z_I q)), (0, .ref hM)] dX7_carryOut_131 rfl (by decide) rfl ?_
                                      refine z_goto C 82 dX7_carryOut_134 (by decide) ?_
                                      refine z_lsub [(6, .int (z_I (i + 1))), (5, .int (z_I (z_mn ln sg (q + 1)))), (4, .int (z_I 1)), (3, .int (z_I 0)), (2, .int (z_I q)), (1, .int (z_I (n2 + 0))), (0, .ref hM)] [0, 3, 4, 2, 5, 1, 6] rfl ?_
                                      exact ih82 (i + 1) 0 (n2 + 0) ((z_c1 ln sg c2 q).1) u2 (by first | assumption | omega) (z_c1_ok hsgn hqo2 hqt2 (by omega)).1 (z_c1_ok hsgn hqo2 hqt2 (by omega)).2 hp2.1 (by have h9 := z_ci9_s hii (by omega) hp2.2.1; first | (rw [if_pos hz2] at h9; exact h9) | (rw [if_neg hz2] at h9; exact h9)) (by omega)
                                  · first
                                    | (exfalso; omega)
                                    | skip
                                      refine z_iconst C 1 dX7_carryOut_124 ?_
                                      refine z_goto C 129 dX7_carryOut_125 (by decide) ?_
                                      refine z_iadd C dX7_carryOut_129 ?_
                                      refine z_istore_n C [(1, .int (z_I (n2 + 1))), (3, .int (z_I 0)), (6, .int (z_I i)), (5, .int (z_I (z_mn ln sg (q + 1)))), (4, .int (z_I 1)), (2, .int (z_I q)), (0, .ref hM)] dX7_carryOut_130 (by decide) rfl ?_
                                      refine z_iinc C 2 [(6, .int (z_I (i + 1))), (1, .int (z_I (n2 + 1))), (3, .int (z_I 0)), (5, .int (z_I (z_mn ln sg (q + 1)))), (4, .int (z_I 1)), (2, .int (z_I q)), (0, .ref hM)] dX7_carryOut_131 rfl (by decide) rfl ?_
                                      refine z_goto C 82 dX7_carryOut_134 (by decide) ?_
                                      refine z_lsub [(6, .int (z_I (i + 1))), (5, .int (z_I (z_mn ln sg (q + 1)))), (4, .int (z_I 1)), (3, .int (z_I 0)), (2, .int (z_I q)), (1, .int (z_I (n2 + 1))), (0, .ref hM)] [0, 3, 4, 2, 5, 1, 6] rfl ?_
                                      exact ih82 (i + 1) 0 (n2 + 1) ((z_c1 ln sg c2 q).1) u2 (by first | assumption | omega) (z_c1_ok hsgn hqo2 hqt2 (by omega)).1 (z_c1_ok hsgn hqo2 hqt2 (by omega)).2 hp2.1 (by have h9 := z_ci9_s hii (by omega) hp2.2.1; first | (rw [if_pos hz2] at h9; exact h9) | (rw [if_neg hz2] at h9; exact h9)) (by omega)
                                · skip
                                  have hz2 : ri2 = 0 := by omega
                                  refine z_iconst C 1 dX7_carryOut_113 ?_
                                  refine z_goto C 118 dX7_carryOut_114 (by decide) ?_
                                  refine z_istore_n C [(3, .int (z_I 1)), (6, .int (z_I i)), (5, .int (z_I (z_mn ln sg (q + 1)))), (4, .int (z_I 1)), (2, .int (z_I q)), (1, .int (z_I n2)), (0, .ref hM)] dX7_carryOut_118 (by decide) rfl ?_
                                  refine z_iload_n C 5 dX7_carryOut_119 rfl ?_
                                  refine z_iload_n C 0 dX7_carryOut_120 rfl ?_
                                  refine z_if_eq C 128 dX7_carryOut_121 (by decide) (by omega) (fun hc59 => ?_) (fun hc59 => ?_)
                                  · first
                                    | (exfalso; omega)
                                    | skip
                                      refine z_iconst C 0 dX7_carryOut_128 ?_
                                      refine z_iadd C dX7_carryOut_129 ?_
                                      refine z_istore_n C [(1, .int (z_I (n2 + 0))), (3, .int (z_I 1)), (6, .int (z_I i)), (5, .int (z_I (z_mn ln sg (q + 1)))), (4, .int (z_I 1)), (2, .int (z_I q)), (0, .ref hM)] dX7_carryOut_130 (by decide) rfl ?_
                                      refine z_iinc C 2 [(6, .int (z_I (i + 1))), (1, .int (z_I (n2 + 0))), (3, .int (z_I 1)), (5, .int (z_I (z_mn ln sg (q + 1)))), (4, .int (z_I 1)), (2, .int (z_I q)), (0, .ref hM)] dX7_carryOut_131 rfl (by decide) rfl ?_
                                      refine z_goto C 82 dX7_carryOut_134 (by decide) ?_
                                      refine z_lsub [(6, .int (z_I (i + 1))), (5, .int (z_I (z_mn ln sg (q + 1)))), (4, .int (z_I 1)), (3, .int (z_I 1)), (2, .int (z_I q)), (1, .int (z_I (n2 + 0))), (0, .ref hM)] [0, 3, 4, 2, 5, 1, 6] rfl ?_
                                      exact ih82 (i + 1) 1 (n2 + 0) ((z_c1 ln sg c2 q).1) u2 (by first | assumption | omega) (z_c1_ok hsgn hqo2 hqt2 (by omega)).1 (z_c1_ok hsgn hqo2 hqt2 (by omega)).2 hp2.1 (by have h9 := z_ci9_s hii (by omega) hp2.2.1; first | (rw [if_pos hz2] at h9; exact h9) | (rw [if_neg hz2] at h9; exact h9)) (by omega)
                                  · first
                                    | (exfalso; omega)
                                    | skip
                                      refine z_iconst C 1 dX7_carryOut_124 ?_
                                      refine z_goto C 129 dX7_carryOut_125 (by decide) ?_
                                      refine z_iadd C dX7_carryOut_129 ?_
                                      refine z_istore_n C [(1, .int (z_I (n2 + 1))), (3, .int (z_I 1)), (6, .int (z_I i)), (5, .int (z_I (z_mn ln sg (q + 1)))), (4, .int (z_I 1)), (2, .int (z_I q)), (0, .ref hM)] dX7_carryOut_130 (by decide) rfl ?_
                                      refine z_iinc C 2 [(6, .int (z_I (i + 1))), (1, .int (z_I (n2 + 1))), (3, .int (z_I 1)), (5, .int (z_I (z_mn ln sg (q + 1)))), (4, .int (z_I 1)), (2, .int (z_I q)), (0, .ref hM)] dX7_carryOut_131 rfl (by decide) rfl ?_
                                      refine z_goto C 82 dX7_carryOut_134 (by decide) ?_
                                      refine z_lsub [(6, .int (z_I (i + 1))), (5, .int (z_I (z_mn ln sg (q + 1)))), (4, .int (z_I 1)), (3, .int (z_I 1)), (2, .int (z_I q)), (1, .int (z_I (n2 + 1))), (0, .ref hM)] [0, 3, 4, 2, 5, 1, 6] rfl ?_
                                      exact ih82 (i + 1) 1 (n2 + 1) ((z_c1 ln sg c2 q).1) u2 (by first | assumption | omega) (z_c1_ok hsgn hqo2 hqt2 (by omega)).1 (z_c1_ok hsgn hqo2 hqt2 (by omega)).2 hp2.1 (by have h9 := z_ci9_s hii (by omega) hp2.2.1; first | (rw [if_pos hz2] at h9; exact h9) | (rw [if_neg hz2] at h9; exact h9)) (by omega)
                            · first
                              | (exfalso; omega)
                              | skip
                                refine z_aload_n C 6 dX7_carryOut_98 rfl ?_
                                refine z_callEi C [0, 1] (fun u2 => [(hM, .inr (7, [.ref aS, .ref aPa, .int (z_I (if kn = 6 then 6 else kn + 1)), .ref aSl, .ref aSv, .ref aPd, .int (z_I ln)])), (aS, z_ai cI 712 u2), (aPa, z_ai cI 2136 (z_rem f pf kn)), (aPd, z_ai cI 80 pd)]) [] [] (c_X7_ticks l D cI cZ cO hM aS aPa aSl aSv aPd (if kn = 6 then 6 else kn + 1) ln g2 c2 hqr2 hqo2 hqt2) gX7_carryOut_X7_ticks rfl zd_X7_ticks rfl (by decide) rfl rfl rfl (by decide) (fun _ => rfl) (fun _ => rfl) rfl (Nat.le_of_ble_eq_true rfl) (by decide) dX7_carryOut_99 (fun u2 ri2 hp2 => ?_)
                                rw [← hrow c2] at hp2
                                refine z_goto C 110 dX7_carryOut_102 (by decide) ?_
                                refine z_if_ne C 117 dX7_carryOut_110 (by decide) (by omega) (fun hc60 => ?_) (fun hc60 => ?_)
                                · skip
                                  have hz2 : ¬ ri2 = 0 := hc60
                                  refine z_iconst C 0 dX7_carryOut_117 ?_
                                  refine z_istore_n C [(3, .int (z_I 0)), (6, .int (z_I i)), (5, .int (z_I (z_mn ln sg (q + 1)))), (4, .int (z_I 1)), (2, .int (z_I q)), (1, .int (z_I n2)), (0, .ref hM)] dX7_carryOut_118 (by decide) rfl ?_
                                  refine z_iload_n C 5 dX7_carryOut_119 rfl ?_
                                  refine z_iload_n C 0 dX7_carryOut_120 rfl ?_
                                  refine z_if_eq C 128 dX7_carryOut_121 (by decide) (by omega) (fun hc61 => ?_) (fun hc61 => ?_)
                                  · first
                                    | (exfalso; omega)
                                    | skip
                                      refine z_iconst C 0 dX7_carryOut_128 ?_
                                      refine z_iadd C dX7_carryOut_129 ?_
                                      refine z_istore_n C [(1, .int (z_I (n2 + 0))), (3, .int (z_I 0)), (6, .int (z_I i)), (5, .int (z_I (z_mn ln sg (q + 1)))), (4, .int (z_I 1)), (2, .int (z_I q)), (0, .ref hM)] dX7_carryOut_130 (by decide) rfl ?_
                                      refine z_iinc C 2 [(6, .int (z_I (i + 1))), (1, .int (z_I (n2 + 0))), (3, .int (z_I 0)), (5, .int (z_I (z_mn ln sg (q + 1)))), (4, .int (z_I 1)), (2, .int (z_I q)), (0, .ref hM)] dX7_carryOut_131 rfl (by decide) rfl ?_
                                      refine z_goto C 82 dX7_carryOut_134 (by decide) ?_
                                      refine z_lsub [(6, .int (z_I (i + 1))), (5, .int (z_I (z_mn ln sg (q + 1)))), (4, .int (z_I 1)), (3, .int (z_I 0)), (2, .int (z_I q)), (1, .int (z_I (n2 + 0))), (0, .ref hM)] [0, 3, 4, 2, 5, 1, 6] rfl ?_
                                      exact ih82 (i + 1) 0 (n2 + 0) ((z_c1 ln sg c2 q).1) u2 (by first | assumption | omega) (z_c1_ok hsgn hqo2 hqt2 (by omega)).1 (z_c1_ok hsgn hqo2 hqt2 (by omega)).2 hp2.1 (by have h9 := z_ci9_s hii (by omega) hp2.2.1; first | (rw [if_pos hz2] at h9; exact h9) | (rw [if_neg hz2] at h9; exact h9)) (by omega)
                                  · first
                                    | (exfalso; omega)
                                    | skip
                                      refine z_iconst C 1 dX7_carryOut_124 ?_
                                      refine z_goto C 129 dX7_carryOut_125 (by decide) ?_
                                      refine z_iadd C dX7_carryOut_129 ?_
                                      refine z_istore_n C [(1, .int (z_I (n2 + 1))), (3, .int (z_I 0)), (6, .int (z_I i)), (5, .int (z_I (z_mn ln sg (q + 1)))), (4, .int (z_I 1)), (2, .int (z_I q)), (0, .ref hM)] dX7_carryOut_130 (by decide) rfl ?_
                                      refine z_iinc C 2 [(6, .int (z_I (i + 1))), (1, .int (z_I (n2 + 1))), (3, .int (z_I 0)), (5, .int (z_I (z_mn ln sg (q + 1)))), (4, .int (z_I 1)), (2, .int (z_I q)), (0, .ref hM)] dX7_carryOut_131 rfl (by decide) rfl ?_
                                      refine z_goto C 82 dX7_carryOut_134 (by decide) ?_
                                      refine z_lsub [(6, .int (z_I (i + 1))), (5, .int (z_I (z_mn ln sg (q + 1)))), (4, .int (z_I 1)), (3, .int (z_I 0)), (2, .int (z_I q)), (1, .int (z_I (n2 + 1))), (0, .ref hM)] [0, 3, 4, 2, 5, 1, 6] rfl ?_
                                      exact ih82 (i + 1) 0 (n2 + 1) ((z_c1 ln sg c2 q).1) u2 (by first | assumption | omega) (z_c1_ok hsgn hqo2 hqt2 (by omega)).1 (z_c1_ok hsgn hqo2 hqt2 (by omega)).2 hp2.1 (by have h9 := z_ci9_s hii (by omega) hp2.2.1; first | (rw [if_pos hz2] at h9; exact h9) | (rw [if_neg hz2] at h9; exact h9)) (by omega)
                                · skip
                                  have hz2 : ri2 = 0 := by omega
                                  refine z_iconst C 1 dX7_carryOut_113 ?_
                                  refine z_goto C 118 dX7_carryOut_114 (by decide) ?_
                                  refine z_istore_n C [(3, .int (z_I 1)), (6, .int (z_I i)), (5, .int (z_I (z_mn ln sg (q + 1)))), (4, .int (z_I 1)), (2, .int (z_I q)), (1, .int (z_I n2)), (0, .ref hM)] dX7_carryOut_118 (by decide) rfl ?_
                                  refine z_iload_n C 5 dX7_carryOut_119 rfl ?_
                                  refine z_iload_n C 0 dX7_carryOut_120 rfl ?_
                                  refine z_if_eq C 128 dX7_carryOut_121 (by decide) (by omega) (fun hc62 => ?_) (fun hc62 => ?_)
                                  · first
                                    | (exfalso; omega)
                                    | skip
                                      refine z_iconst C 0 dX7_carryOut_128 ?_
                                      refine z_iadd C dX7_carryOut_129 ?_
                                      refine z_istore_n C [(1, .int (z_I (n2 + 0))), (3, .int (z_I 1)), (6, .int (z_I i)), (5, .int (z_I (z_mn ln sg (q + 1)))), (4, .int (z_I 1)), (2, .int (z_I q)), (0, .ref hM)] dX7_carryOut_130 (by decide) rfl ?_
                                      refine z_iinc C 2 [(6, .int (z_I (i + 1))), (1, .int (z_I (n2 + 0))), (3, .int (z_I 1)), (5, .int (z_I (z_mn ln sg (q + 1)))), (4, .int (z_I 1)), (2, .int (z_I q)), (0, .ref hM)] dX7_carryOut_131 rfl (by decide) rfl ?_
                                      refine z_goto C 82 dX7_carryOut_134 (by decide) ?_
                                      refine z_lsub [(6, .int (z_I (i + 1))), (5, .int (z_I (z_mn ln sg (q + 1)))), (4, .int (z_I 1)), (3, .int (z_I 1)), (2, .int (z_I q)), (1, .int (z_I (n2 + 0))), (0, .ref hM)] [0, 3, 4, 2, 5, 1, 6] rfl ?_
                                      exact ih82 (i + 1) 1 (n2 + 0) ((z_c1 ln sg c2 q).1) u2 (by first | assumption | omega) (z_c1_ok hsgn hqo2 hqt2 (by omega)).1 (z_c1_ok hsgn hqo2 hqt2 (by omega)).2 hp2.1 (by have h9 := z_ci9_s hii (by omega) hp2.2.1; first | (rw [if_pos hz2] at h9; exact h9) | (rw [if_neg hz2] at h9; exact h9)) (by omega)
                                  · first
                                    | (exfalso; omega)
                                    | skip
                                      refine z_iconst C 1 dX7_carryOut_124 ?_
                                      refine z_goto C 129 dX7_carryOut_125 (by decide) ?_
                                      refine z_iadd C dX7_carryOut_129 ?_
                                      refine z_istore_n C [(1, .int (z_I (n2 + 1))), (3, .int (z_I 1)), (6, .int (z_I i)), (5, .int (z_I (z_mn ln sg (q + 1)))), (4, .int (z_I 1)), (2, .int (z_I q)), (0, .ref hM)] dX7_carryOut_130 (by decide) rfl ?_
                                      refine z_iinc C 2 [(6, .int (z_I (i + 1))), (1, .int (z_I (n2 + 1))), (3, .int (z_I 1)), (5, .int (z_I (z_mn ln sg (q + 1)))), (4, .int (z_I 1)), (2, .int (z_I q)), (0, .ref hM)] dX7_carryOut_131 rfl (by decide) rfl ?_
                                      refine z_goto C 82 dX7_carryOut_134 (by decide) ?_
                                      refine z_lsub [(6, .int (z_I (i + 1))), (5, .int (z_I (z_mn ln sg (q + 1)))), (4, .int (z_I 1)), (3, .int (z_I 1)), (2, .int (z_I q)), (1, .int (z_I (n2 + 1))), (0, .ref hM)] [0, 3, 4, 2, 5, 1, 6] rfl ?_
                                      exact ih82 (i + 1) 1 (n2 + 1) ((z_c1 ln sg c2 q).1) u2 (by first | assumption | omega) (z_c1_ok hsgn hqo2 hqt2 (by omega)).1 (z_c1_ok hsgn hqo2 hqt2 (by omega)).2 hp2.1 (by have h9 := z_ci9_s hii (by omega) hp2.2.1; first | (rw [if_pos hz2] at h9; exact h9) | (rw [if_neg hz2] at h9; exact h9)) (by omega)
                    exact loop82 102 0 go n cz g (by first | assumption | omega) hqo hqt hqr (by rw [hgo1]; exact ⟨⟨by omega, Or.inr rfl⟩, Or.inl ⟨rfl, by rw [Int.sub_zero]⟩⟩) (by omega)
    exact loop22 (ln.toNat + 3) 0 0 1 ct f (by first | assumption | omega) hok htt hrel (z_cs9_0 hln.1 hz) (by omega)
  · skip
    have hz : ¬ z_ff ln sg 0 0 ln.toNat = -6 := by omega
    refine z_bipush C (-3) dX7_carryOut_9 (by decide) ?_
    refine z_ws [(hM, .inr (7, [.ref aS, .ref aPa, .int (z_I kn), .ref aSl, .ref aSv, .ref aPd, .int (z_I (if z_ff ln sg 0 0 ln.toNat = -6 then 0 else ln))])), (aS, z_ai cI 712 f), (aPa, z_ai cI 2136 pf), (aPd, z_ai cI 80 pd)] (by rw [if_neg hz]) ?_
    exact z_irete C hQ (f, pf, kn) rfl ⟨by rw [if_neg hz], by rw [if_neg hz]; exact hrel, by rw [if_neg hz, if_neg hz, if_neg hz]; exact hmh⟩ dX7_carryOut_11
