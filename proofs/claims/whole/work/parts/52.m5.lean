theorem zi_X7_set_X7 : ∀ w ∈ u_ws RX7 TX7 7, w ∈ wsX7_set := by decide +kernel
theorem zl_X7_set_7 : Cond.fieldLink RX7 7 "RippleCountsModel" "s" "[I" ∈ wsX7_set := by decide +kernel
theorem zd_X7_set : yX7_set.cls ≠ "java/lang/invoke/MethodHandle" ∧ yX7_set.cls ≠ "java/lang/invoke/VarHandle" ∧ (parseMethodDescriptor yX7_set.desc).map (fun d => d.parameters.length) = some 2 := by decide +kernel
set_option maxHeartbeats 4000000 in
set_option maxRecDepth 100000 in
theorem c_X7_set (l : Launch) (D : va_G) (cI cZ cO : ClassId) (hM aS aPa aSl aSv aPd : Nat) (kn ln : Int) (f : Int → Int) (pf : Int → Int) (ct : z_Ct) (kp od : Int) (hr : Int → z_Ct) (w k : Int) (hrel : z_rel ct 0 f) (hok : z_ok ct) (htt : ct.1.1 ≤ 9999) (hmh : z_mh kp od hr kn pf) (hkp : 0 ≤ kp ∧ kp ≤ 6) (hod : 0 ≤ od ∧ od < 7) (hhr : ∀ j : Int, 0 ≤ j → j < 7 → z_ok (hr j)) (hww : -2147483648 ≤ w ∧ w < 2147483648) (hk : -2147483648 ≤ k ∧ k < 2147483648) : z_Ei ((Int → Int) × (Int → Int) × Int) l yX7_set wsX7_set 1 22 D (z_T cI cZ cO) [.ref hM, .int (z_I w), .int (z_I k)] ([(hM, .inr (7, [.ref aS, .ref aPa, .int (z_I kn), .ref aSl, .ref aSv, .ref aPd, .int (z_I ln)])), (aS, z_ai cI 712 f), (aPa, z_ai cI 2136 pf)]) (fun u => [(hM, .inr (7, [.ref aS, .ref aPa, .int (z_I u.2.2), .ref aSl, .ref aSv, .ref aPd, .int (z_I ln)])), (aS, z_ai cI 712 u.1), (aPa, z_ai cI 2136 u.2.1)]) (fun ri u => ri = (z_chg ct w k).2 ∧ z_rel (z_chg ct w k).1 0 u.1 ∧ z_mh (z_stK (z_chg ct w k).2 kp) (z_stO (z_chg ct w k).2 kp od) (z_uc hr ((od + kp) % 7) ct) u.2.2 u.2.1) := by
  refine z_Ei_of (cc := cX7_set) (nL := 5) (ret := (some .int)) (by decide +kernel) rfl (Nat.le_of_ble_eq_true rfl) ?_
  intro p e s m args below meth c A Q C hQ
  change z_V p l e { frames := 1, cells := 0, slots := 0, locals := 22 } s m args below meth c D A 5 0 0 Q ([(hM, .inr (7, [.ref aS, .ref aPa, .int (z_I kn), .ref aSl, .ref aSv, .ref aPd, .int (z_I ln)])), (aS, z_ai cI 712 f), (aPa, z_ai cI 2136 pf)]) 0 [(0, .ref hM), (1, .int (z_I w)), (2, .int (z_I k))] []
  obtain ⟨hw, hrd, hsg, hho, hck, hlc, hld, hlw, hrl0⟩ := id hok
  obtain ⟨ht0, hst, hsh, hdl, hdu, hdn, hB, htot, hbit, hzero, how⟩ := id hw
  obtain ⟨hrn, hrr, hla⟩ := id hrd
  obtain ⟨hsn, hrk, hfo, hcnt, hinj, hsur⟩ := id hsg
  have hp := z_p2_le (k := ct.1.2.1) (by omega)
  obtain ⟨y0, y1, y2, y3, y4, y5, y6, y7, y8⟩ := hrel.1
  simp only [Int.zero_add] at y1 y2 y3 y4 y5 y6 y7 y8
  have hkn := hmh.1
  refine z_iload_n C 1 dX7_set_0 rfl ?_
  refine z_if_ne C 13 dX7_set_1 (by decide) (by omega) (fun hc1 => ?_) (fun hc1 => ?_)
  · skip
    refine z_iload_n C 1 dX7_set_13 rfl ?_
    refine z_iconst C 1 dX7_set_14 ?_
    refine z_icmp_ne C 32 dX7_set_15 (by decide) (by omega) (by omega) (fun hc2 => ?_) (fun hc2 => ?_)
    · skip
      refine z_iconst C 0 dX7_set_32 ?_
      refine z_istore_n C [(3, .int (z_I 0)), (0, .ref hM), (1, .int (z_I w)), (2, .int (z_I k))] dX7_set_33 (by decide) rfl ?_
      refine z_iload_n C 0 dX7_set_34 rfl ?_
      refine z_if_ne C 41 dX7_set_35 (by decide) (by first | omega | (split <;> omega)) (fun hc3 => ?_) (fun hc3 => ?_)
      · first
        | (exfalso; omega)
        | skip
          try have hz2 := z_if1.mp hc3
          refine z_aload_n C 1 dX7_set_41 rfl ?_
          refine z_callVv C [0, 1, 2] [(hM, .inr (7, [.ref aS, .ref aPa, .int (z_I (if kn = 6 then 6 else kn + 1)), .ref aSl, .ref aSv, .ref aPd, .int (z_I ln)])), (aS, z_ai cI 712 f), (aPa, z_ai cI 2136 (z_rem f pf kn))] [] [] (c_X7_remembers l D cI cZ cO hM aS aPa aSl aSv aPd kn ln f pf (by first | assumption | omega)) gX7_set_X7_remembers rfl zd_X7_remembers rfl (by decide) rfl rfl rfl (by decide) rfl rfl rfl (Nat.le_of_ble_eq_true rfl) (by decide) dX7_set_42 ?_
          refine z_aload_n C 1 dX7_set_45 rfl ?_
          refine z_get C 0 0 zi_X7_set_X7 rfl rfl (by decide) zl_X7_set_7 rfl rfl dX7_set_46 ?_
          refine z_iconst C 0 dX7_set_49 ?_
          refine z_iload_n C 2 dX7_set_50 rfl ?_
          refine z_iadd C dX7_set_51 ?_
          refine z_iald C 1 0 rfl rfl (by decide) (by omega) dX7_set_52 ?_
          refine z_istore C [(4, .int (z_I (f (0 + w)))), (3, .int (z_I 0)), (0, .ref hM), (1, .int (z_I w)), (2, .int (z_I k))] dX7_set_53 (by decide) rfl ?_
          refine z_aload_n C 2 dX7_set_55 rfl ?_
          refine z_get C 0 0 zi_X7_set_X7 rfl rfl (by decide) zl_X7_set_7 rfl rfl dX7_set_56 ?_
          refine z_iconst C 0 dX7_set_59 ?_
          refine z_iload_n C 3 dX7_set_60 rfl ?_
          refine z_iadd C dX7_set_61 ?_
          refine z_iload_n C 4 dX7_set_62 rfl ?_
          refine z_iast C 1 0 ([(hM, .inr (7, [.ref aS, .ref aPa, .int (z_I (if kn = 6 then 6 else kn + 1)), .ref aSl, .ref aSv, .ref aPd, .int (z_I ln)])), (aS, z_ai cI 712 (z_u f (0 + w) k)), (aPa, z_ai cI 2136 (z_rem f pf kn))]) rfl rfl (by decide) (by omega) rfl dX7_set_63 ?_
          refine z_iload_n C 3 dX7_set_64 rfl ?_
          refine z_if_ne C 73 dX7_set_65 (by decide) (by omega) (fun hc4 => ?_) (fun hc4 => ?_)
          · skip
            refine z_iload C 0 dX7_set_73 rfl ?_
            exact z_irete C hQ (z_u f (0 + w) k, (z_rem f pf kn), (if kn = 6 then 6 else kn + 1)) rfl (by first | (have hch : (z_chg ct w k) = (z_anew ct k, ct.1.2.1) := by unfold z_chg z_cs; rw [if_pos (show w = 0 by omega), if_pos (by omega)]) ; (exact ⟨by rw [hch, show 0 + w = 0 by omega, y0], by rw [hch]; exact hp1.1, by rw [hch]; exact z_mh_rem hmh hkp hod hrel hok hhr (by show ¬ ct.1.2.1 < 0; omega)⟩) | (have hch : (z_chg ct w k) = ((ct.1, ct.2.1, ct.2.2.1, k, ct.2.2.2.2.1, ct.2.2.2.2.2.1, ct.2.2.2.2.2.2.1, ct.2.2.2.2.2.2.2), ct.2.2.2.1) := by unfold z_chg z_chh; rw [if_neg (show ¬ w = 0 by omega), if_pos (show w = 1 by omega), if_pos (by omega)]) ; (exact ⟨by rw [hch, show 0 + w = 1 by omega, y1], by rw [hch, show 0 + w = 0 + 1 by omega]; exact z_rl_ho hrel hrn.1 hsn.1, by rw [hch]; exact z_mh_rem hmh hkp hod hrel hok hhr (by show ¬ ct.2.2.2.1 < 0; omega)⟩)) dX7_set_75
          · skip
            refine z_aload_n C 2 dX7_set_68 rfl ?_
            refine z_iconst C 0 dX7_set_69 ?_
            refine z_callEv C [0, 1] (fun u1 => [(hM, .inr (7, [.ref aS, .ref aPa, .int (z_I (if kn = 6 then 6 else kn + 1)), .ref aSl, .ref aSv, .ref aPd, .int (z_I ln)])), (aS, z_ai cI 712 u1), (aPa, z_ai cI 2136 (z_rem f pf kn))]) [.int (z_I 0)] [] (c_X7_begins l D cI cZ cO hM aS aPa aSl aSv aPd (if kn = 6 then 6 else kn + 1) ln (z_u f (0 + w) k) 0 ((ct.1.1, k, ct.1.2.2.1, ct.1.2.2.2.1, ct.1.2.2.2.2.1, ct.1.2.2.2.2.2.1, ct.1.2.2.2.2.2.2), ct.2.1, ct.2.2.1, ct.2.2.2.1, ct.2.2.2.2.1, ct.2.2.2.2.2.1, ct.2.2.2.2.2.2.1, ct.2.2.2.2.2.2.2) (fun _ _ => True) (fun k i => ct.1.2.2.2.2.2.2 (k * 21 + (ct.1.1 + i) % 21)) (by first | assumption | omega) (by rw [show 0 + w = 0 by omega]; exact z_rl_st hrel hrn.1 hsn.1)) gX7_set_X7_begins rfl zd_X7_begins rfl (by decide) rfl rfl rfl (by decide) (fun _ => rfl) (fun _ => rfl) rfl (Nat.le_of_ble_eq_true rfl) (by decide) dX7_set_70 (fun u1 hp1 => ?_)
            refine z_iload C 0 dX7_set_73 rfl ?_
            exact z_irete C hQ (u1, (z_rem f pf kn), (if kn = 6 then 6 else kn + 1)) rfl (by first | (have hch : (z_chg ct w k) = (z_anew ct k, ct.1.2.1) := by unfold z_chg z_cs; rw [if_pos (show w = 0 by omega), if_pos (by omega)]) ; (exact ⟨by rw [hch, show 0 + w = 0 by omega, y0], by rw [hch]; exact hp1.1, by rw [hch]; exact z_mh_rem hmh hkp hod hrel hok hhr (by show ¬ ct.1.2.1 < 0; omega)⟩) | (have hch : (z_chg ct w k) = ((ct.1, ct.2.1, ct.2.2.1, k, ct.2.2.2.2.1, ct.2.2.2.2.2.1, ct.2.2.2.2.2.2.1, ct.2.2.2.2.2.2.2), ct.2.2.2.1) := by unfold z_chg z_chh; rw [if_neg (show ¬ w = 0 by omega), if_pos (show w = 1 by omega), if_pos (by omega)]) ; (exact ⟨by rw [hch, show 0 + w = 1 by omega, y1], by rw [hch, show 0 + w = 0 + 1 by omega]; exact z_rl_ho hrel hrn.1 hsn.1, by rw [hch]; exact z_mh_rem hmh hkp hod hrel hok hhr (by show ¬ ct.2.2.2.1 < 0; omega)⟩)) dX7_set_75
      · first
        | (exfalso; omega)
        | skip
          try have hz2 := z_if0.mp hc3
          refine z_bipush C (-2) dX7_set_38 (by decide) ?_
          exact z_irete C hQ (f, pf, kn) rfl ⟨by rw [show (z_chg ct w k) = (ct, -2) from (by unfold z_chg z_cs z_chh; (repeat' split) <;> first | rfl | (exfalso; omega))], by rw [show (z_chg ct w k) = (ct, -2) from (by unfold z_chg z_cs z_chh; (repeat' split) <;> first | rfl | (exfalso; omega))]; exact hrel, by rw [show (z_chg ct w k) = (ct, -2) from (by unfold z_chg z_cs z_chh; (repeat' split) <;> first | rfl | (exfalso; omega))]; exact (z_mh_err hmh hkp hod (by first | omega | (dsimp only; omega)))⟩ dX7_set_40
    · skip
      refine z_iload_n C 2 dX7_set_18 rfl ?_
      refine z_iconst C 0 dX7_set_19 ?_
      refine z_bipush C 20 dX7_set_20 (by decide) ?_
      refine z_callSi C [] [(hM, .inr (7, [.ref aS, .ref aPa, .int (z_I kn), .ref aSl, .ref aSv, .ref aPd, .int (z_I ln)])), (aS, z_ai cI 712 f), (aPa, z_ai cI 2136 pf)] [.int (z_I k), .int (z_I 0), .int (z_I 20)] [] (c_X7_in l D cI cZ cO k 0 20 (by first | assumption | omega) (by first | assumption | omega) (by first | assumption | omega)) gX7_set_X7_in rfl zd_X7_in rfl (by decide) rfl (by decide) rfl rfl rfl (Nat.le_of_ble_eq_true rfl) (by decide) dX7_set_22 ?_
      refine z_if_eq C 32 dX7_set_25 (by decide) (by omega) (fun hc5 => ?_) (fun hc5 => ?_)
      · skip
        have hz3 := z_if0.mp hc5
        refine z_iconst C 0 dX7_set_32 ?_
        refine z_istore_n C [(3, .int (z_I 0)), (0, .ref hM), (1, .int (z_I w)), (2, .int (z_I k))] dX7_set_33 (by decide) rfl ?_
        refine z_iload_n C 0 dX7_set_34 rfl ?_
        refine z_if_ne C 41 dX7_set_35 (by decide) (by first | omega | (split <;> omega)) (fun hc6 => ?_) (fun hc6 => ?_)
        · first
          | (exfalso; omega)
          | skip
            try have hz2 := z_if1.mp hc6
            refine z_aload_n C 1 dX7_set_41 rfl ?_
            refine z_callVv C [0, 1, 2] [(hM, .inr (7, [.ref aS, .ref aPa, .int (z_I (if kn = 6 then 6 else kn + 1)), .ref aSl, .ref aSv, .ref aPd, .int (z_I ln)])), (aS, z_ai cI 712 f), (aPa, z_ai cI 2136 (z_rem f pf kn))] [] [] (c_X7_remembers l D cI cZ cO hM aS aPa aSl aSv aPd kn ln f pf (by first | assumption | omega)) gX7_set_X7_remembers rfl zd_X7_remembers rfl (by decide) rfl rfl rfl (by decide) rfl rfl rfl (Nat.le_of_ble_eq_true rfl) (by decide) dX7_set_42 ?_
            refine z_aload_n C 1 dX7_set_45 rfl ?_
            refine z_get C 0 0 zi_X7_set_X7 rfl rfl (by decide) zl_X7_set_7 rfl rfl dX7_set_46 ?_
            refine z_iconst C 0 dX7_set_49 ?_
            refine z_iload_n C 2 dX7_set_50 rfl ?_
            refine z_iadd C dX7_set_51 ?_
            refine z_iald C 1 0 rfl rfl (by decide) (by omega) dX7_set_52 ?_
            refine z_istore C [(4, .int (z_I (f (0 + w)))), (3, .int (z_I 0)), (0, .ref hM), (1, .int (z_I w)), (2, .int (z_I k))] dX7_set_53 (by decide) rfl ?_
            refine z_aload_n C 2 dX7_set_55 rfl ?_
            refine z_get C 0 0 zi_X7_set_X7 rfl rfl (by decide) zl_X7_set_7 rfl rfl dX7_set_56 ?_
            refine z_iconst C 0 dX7_set_59 ?_
            refine z_iload_n C 3 dX7_set_60 rfl ?_
            refine z_iadd C dX7_set_61 ?_
            refine z_iload_n C 4 dX7_set_62 rfl ?_
            refine z_iast C 1 0 ([(hM, .inr (7, [.ref aS, .ref aPa, .int (z_I (if kn = 6 then 6 else kn + 1)), .ref aSl, .ref aSv, .ref aPd, .int (z_I ln)])), (aS, z_ai cI 712 (z_u f (0 + w) k)), (aPa, z_ai cI 2136 (z_rem f pf kn))]) rfl rfl (by decide) (by omega) rfl dX7_set_63 ?_
            refine z_iload_n C 3 dX7_set_64 rfl ?_
            refine z_if_ne C 73 dX7_set_65 (by decide) (by omega) (fun hc7 => ?_) (fun hc7 => ?_)
            · skip
              refine z_iload C 0 dX7_set_73 rfl ?_
              exact z_irete C hQ (z_u f (0 + w) k, (z_rem f pf kn), (if kn = 6 then 6 else kn + 1)) rfl (by first | (have hch : (z_chg ct w k) = (z_anew ct k, ct.1.2.1) := by unfold z_chg z_cs; rw [if_pos (show w = 0 by omega), if_pos (by omega)]) ; (exact ⟨by rw [hch, show 0 + w = 0 by omega, y0], by rw [hch]; exact hp1.1, by rw [hch]; exact z_mh_rem hmh hkp hod hrel hok hhr (by show ¬ ct.1.2.1 < 0; omega)⟩) | (have hch : (z_chg ct w k) = ((ct.1, ct.2.1, ct.2.2.1, k, ct.2.2.2.2.1, ct.2.2.2.2.2.1, ct.2.2.2.2.2.2.1, ct.2.2.2.2.2.2.2), ct.2.2.2.1) := by unfold z_chg z_chh; rw [if_neg (show ¬ w = 0 by omega), if_pos (show w = 1 by omega), if_pos (by omega)]) ; (exact ⟨by rw [hch, show 0 + w = 1 by omega, y1], by rw [hch, show 0 + w = 0 + 1 by omega]; exact z_rl_ho hrel hrn.1 hsn.1, by rw [hch]; exact z_mh_rem hmh hkp hod hrel hok hhr (by show ¬ ct.2.2.2.1 < 0; omega)⟩)) dX7_set_75
            · skip
              refine z_aload_n C 2 dX7_set_68 rfl ?_
              refine z_iconst C 0 dX7_set_69 ?_
              refine z_callEv C [0, 1] (fun u1 => [(hM, .inr (7, [.ref aS, .ref aPa, .int (z_I (if kn = 6 then 6 else kn + 1)), .ref aSl, .ref aSv, .ref aPd, .int (z_I ln)])), (aS, z_ai cI 712 u1), (aPa, z_ai cI 2136 (z_rem f pf kn))]) [.int (z_I 0)] [] (c_X7_begins l D cI cZ cO hM aS aPa aSl aSv aPd (if kn = 6 then 6 else kn + 1) ln (z_u f (0 + w) k) 0 ((ct.1.1, k, ct.1.2.2.1, ct.1.2.2.2.1, ct.1.2.2.2.2.1, ct.1.2.2.2.2.2.1, ct.1.2.2.2.2.2.2), ct.2.1, ct.2.2.1, ct.2.2.2.1, ct.2.2.2.2.1, ct.2.2.2.2.2.1, ct.2.2.2.2.2.2.1, ct.2.2.2.2.2.2.2) (fun _ _ => True) (fun k i => ct.1.2.2.2.2.2.2 (k * 21 + (ct.1.1 + i) % 21)) (by first | assumption | omega) (by rw [show 0 + w = 0 by omega]; exact z_rl_st hrel hrn.1 hsn.1)) gX7_set_X7_begins rfl zd_X7_begins rfl (by decide) rfl rfl rfl (by decide) (fun _ => rfl) (fun _ => rfl) rfl (Nat.le_of_ble_eq_true rfl) (by decide) dX7_set_70 (fun u1 hp1 => ?_)
              refine z_iload C 0 dX7_set_73 rfl ?_
              exact z_irete C hQ (u1, (z_rem f pf kn), (if kn = 6 then 6 else kn + 1)) rfl (by first | (have hch : (z_chg ct w k) = (z_anew ct k, ct.1.2.1) := by unfold z_chg z_cs; rw [if_pos (show w = 0 by omega), if_pos (by omega)]) ; (exact ⟨by rw [hch, show 0 + w = 0 by omega, y0], by rw [hch]; exact hp1.1, by rw [hch]; exact z_mh_rem hmh hkp hod hrel hok hhr (by show ¬ ct.1.2.1 < 0; omega)⟩) | (have hch : (z_chg ct w k) = ((ct.1, ct.2.1, ct.2.2.1, k, ct.2.2.2.2.1, ct.2.2.2.2.2.1, ct.2.2.2.2.2.2.1, ct.2.2.2.2.2.2.2), ct.2.2.2.1) := by unfold z_chg z_chh; rw [if_neg (show ¬ w = 0 by omega), if_pos (show w = 1 by omega), if_pos (by omega)]) ; (exact ⟨by rw [hch, show 0 + w = 1 by omega, y1], by rw [hch, show 0 + w = 0 + 1 by omega]; exact z_rl_ho hrel hrn.1 hsn.1, by rw [hch]; exact z_mh_rem hmh hkp hod hrel hok hhr (by show ¬ ct.2.2.2.1 < 0; omega)⟩)) dX7_set_75
        · first
          | (exfalso; omega)
          | skip
            try have hz2 := z_if0.mp hc6
            refine z_bipush C (-2) dX7_set_38 (by decide) ?_
            exact z_irete C hQ (f, pf, kn) rfl ⟨by rw [show (z_chg ct w k) = (ct, -2) from (by unfold z_chg z_cs z_chh; (repeat' split) <;> first | rfl | (exfalso; omega))], by rw [show (z_chg ct w k) = (ct, -2) from (by unfold z_chg z_cs z_chh; (repeat' split) <;> first | rfl | (exfalso; omega))]; exact hrel, by rw [show (z_chg ct w k) = (ct, -2) from (by unfold z_chg z_cs z_chh; (repeat' split) <;> first | rfl | (exfalso; omega))]; exact (z_mh_err hmh hkp hod (by first | omega | (dsimp only; omega)))⟩ dX7_set_40
      · skip
        have hz3 := z_if1.mp hc5
        refine z_iconst C 1 dX7_set_28 ?_
        refine z_goto C 33 dX7_set_29 (by decide) ?_
        refine z_istore_n C [(3, .int (z_I 1)), (0, .ref hM), (1, .int (z_I w)), (2, .int (z_I k))] dX7_set_33 (by decide) rfl ?_
        refine z_iload_n C 0 dX7_set_34 rfl ?_
        refine z_if_ne C 41 dX7_set_35 (by decide) (by first | omega | (split <;> omega)) (fun hc8 => ?_) (fun hc8 => ?_)
        · first
          | (exfalso; omega)
          | skip
            try have hz2 := z_if1.mp hc8
            refine z_aload_n C 1 dX7_set_41 rfl ?_
            refine z_callVv C [0, 1, 2] [(hM, .inr (7, [.ref aS, .ref aPa, .int (z_I (if kn = 6 then 6 else kn + 1)), .ref aSl, .ref aSv, .ref aPd, .int (z_I ln)])), (aS, z_ai cI 712 f), (aPa, z_ai cI 2136 (z_rem f pf kn))] [] [] (c_X7_remembers l D cI cZ cO hM aS aPa aSl aSv aPd kn ln f pf (by first | assumption | omega)) gX7_set_X7_remembers rfl zd_X7_remembers rfl (by decide) rfl rfl rfl (by decide) rfl rfl rfl (Nat.le_of_ble_eq_true rfl) (by decide) dX7_set_42 ?_
            refine z_aload_n C 1 dX7_set_45 rfl ?_
            refine z_get C 0 0 zi_X7_set_X7 rfl rfl (by decide) zl_X7_set_7 rfl rfl dX7_set_46 ?_
            refine z_iconst C 0 dX7_set_49 ?_
            refine z_iload_n C 2 dX7_set_50 rfl ?_
            refine z_iadd C dX7_set_51 ?_
            refine z_iald C 1 0 rfl rfl (by decide) (by omega) dX7_set_52 ?_
            refine z_istore C [(4, .int (z_I (f (0 + w)))), (3, .int (z_I 1)), (0, .ref hM), (1, .int (z_I w)), (2, .int (z_I k))] dX7_set_53 (by decide) rfl ?_
            refine z_aload_n C 2 dX7_set_55 rfl ?_
            refine z_get C 0 0 zi_X7_set_X7 rfl rfl (by decide) zl_X7_set_7 rfl rfl dX7_set_56 ?_
            refine z_iconst C 0 dX7_set_59 ?_
            refine z_iload_n C 3 dX7_set_60 rfl ?_
            refine z_iadd C dX7_set_61 ?_
            refine z_iload_n C 4 dX7_set_62 rfl ?_
            refine z_iast C 1 0 ([(hM, .inr (7, [.ref aS, .ref aPa, .int (z_I (if kn = 6 then 6 else kn + 1)), .ref aSl, .ref aSv, .ref aPd, .int (z_I ln)])), (aS, z_ai cI 712 (z_u f (0 + w) k)), (aPa, z_ai cI 2136 (z_rem f pf kn))]) rfl rfl (by decide) (by omega) rfl dX7_set_63 ?_
            refine z_iload_n C 3 dX7_set_64 rfl ?_
            refine z_if_ne C 73 dX7_set_65 (by decide) (by omega) (fun hc9 => ?_) (fun hc9 => ?_)
            · skip
              refine z_iload C 0 dX7_set_73 rfl ?_
              exact z_irete C hQ (z_u f (0 + w) k, (z_rem f pf kn), (if kn = 6 then 6 else kn + 1)) rfl (by first | (have hch : (z_chg ct w k) = (z_anew ct k, ct.1.2.1) := by unfold z_chg z_cs; rw [if_pos (show w = 0 by omega), if_pos (by omega)]) ; (exact ⟨by rw [hch, show 0 + w = 0 by omega, y0], by rw [hch]; exact hp1.1, by rw [hch]; exact z_mh_rem hmh hkp hod hrel hok hhr (by show ¬ ct.1.2.1 < 0; omega)⟩) | (have hch : (z_chg ct w k) = ((ct.1, ct.2.1, ct.2.2.1, k, ct.2.2.2.2.1, ct.2.2.2.2.2.1, ct.2.2.2.2.2.2.1, ct.2.2.2.2.2.2.2), ct.2.2.2.1) := by unfold z_chg z_chh; rw [if_neg (show ¬ w = 0 by omega), if_pos (show w = 1 by omega), if_pos (by omega)]) ; (exact ⟨by rw [hch, show 0 + w = 1 by omega, y1], by rw [hch, show 0 + w = 0 + 1 by omega]; exact z_rl_ho hrel hrn.1 hsn.1, by rw [hch]; exact z_mh_rem hmh hkp hod hrel hok hhr (by show ¬ ct.2.2.2.1 < 0; omega)⟩)) dX7_set_75
            · skip
              refine z_aload_n C 2 dX7_set_68 rfl ?_
              refine z_iconst C 0 dX7_set_69 ?_
              refine z_callEv C [0, 1] (fun u1 => [(hM, .inr (7, [.ref aS, .ref aPa, .int (z_I (if kn = 6 then 6 else kn + 1)), .ref aSl, .ref aSv, .ref aPd, .int (z_I ln)])), (aS, z_ai cI 712 u1), (aPa, z_ai cI 2136 (z_rem f pf kn))]) [.int (z_I 0)] [] (c_X7_begins l D cI cZ cO hM aS aPa aSl aSv aPd (if kn = 6 then 6 else kn + 1) ln (z_u f (0 + w) k) 0 ((ct.1.1, k, ct.1.2.2.1, ct.1.2.2.2.1, ct.1.2.2.2.2.1, ct.1.2.2.2.2.2.1, ct.1.2.2.2.2.2.2), ct.2.1, ct.2.2.1, ct.2.2.2.1, ct.2.2.2.2.1, ct.2.2.2.2.2.1, ct.2.2.2.2.2.2.1, ct.2.2.2.2.2.2.2) (fun _ _ => True) (fun k i => ct.1.2.2.2.2.2.2 (k * 21 + (ct.1.1 + i) % 21)) (by first | assumption | omega) (by rw [show 0 + w = 0 by omega]; exact z_rl_st hrel hrn.1 hsn.1)) gX7_set_X7_begins rfl zd_X7_begins rfl (by decide) rfl rfl rfl (by decide) (fun _ => rfl) (fun _ => rfl) rfl (Nat.le_of_ble_eq_true rfl) (by decide) dX7_set_70 (fun u1 hp1 => ?_)
              refine z_iload C 0 dX7_set_73 rfl ?_
              exact z_irete C hQ (u1, (z_rem f pf kn), (if kn = 6 then 6 else kn + 1)) rfl (by first | (have hch : (z_chg ct w k) = (z_anew ct k, ct.1.2.1) := by unfold z_chg z_cs; rw [if_pos (show w = 0 by omega), if_pos (by omega)]) ; (exact ⟨by rw [hch, show 0 + w = 0 by omega, y0], by rw [hch]; exact hp1.1, by rw [hch]; exact z_mh_rem hmh hkp hod hrel hok hhr (by show ¬ ct.1.2.1 < 0; omega)⟩) | (have hch : (z_chg ct w k) = ((ct.1, ct.2.1, ct.2.2.1, k, ct.2.2.2.2.1, ct.2.2.2.2.2.1, ct.2.2.2.2.2.2.1, ct.2.2.2.2.2.2.2), ct.2.2.2.1) := by unfold z_chg z_chh; rw [if_neg (show ¬ w = 0 by omega), if_pos (show w = 1 by omega), if_pos (by omega)]) ; (exact ⟨by rw [hch, show 0 + w = 1 by omega, y1], by rw [hch, show 0 + w = 0 + 1 by omega]; exact z_rl_ho hrel hrn.1 hsn.1, by rw [hch]; exact z_mh_rem hmh hkp hod hrel hok hhr (by show ¬ ct.2.2.2.1 < 0; omega)⟩)) dX7_set_75
        · first
          | (exfalso; omega)
          | skip
            try have hz2 := z_if0.mp hc8
            refine z_bipush C (-2) dX7_set_38 (by decide) ?_
            exact z_irete C hQ (f, pf, kn) rfl ⟨by rw [show (z_chg ct w k) = (ct, -2) from (by unfold z_chg z_cs z_chh; (repeat' split) <;> first | rfl | (exfalso; omega))], by rw [show (z_chg ct w k) = (ct, -2) from (by unfold z_chg z_cs z_chh; (repeat' split) <;> first | rfl | (exfalso; omega))]; exact hrel, by rw [show (z_chg ct w k) = (ct, -2) from (by unfold z_chg z_cs z_chh; (repeat' split) <;> first | rfl | (exfalso; omega))]; exact (z_mh_err hmh hkp hod (by first | omega | (dsimp only; omega)))⟩ dX7_set_40
  · skip
    refine z_iload_n C 2 dX7_set_4 rfl ?_
    refine z_iconst C 1 dX7_set_5 ?_
    refine z_iconst C 5 dX7_set_6 ?_
    refine z_callSi C [] [(hM, .inr (7, [.ref aS, .ref aPa, .int (z_I kn), .ref aSl, .ref aSv, .ref aPd, .int (z_I ln)])), (aS, z_ai cI 712 f), (aPa, z_ai cI 2136 pf)] [.int (z_I k), .int (z_I 1), .int (z_I 5)] [] (c_X7_in l D cI cZ cO k 1 5 (by first | assumption | omega) (by first | assumption | omega) (by first | assumption | omega)) gX7_set_X7_in rfl zd_X7_in rfl (by decide) rfl (by decide) rfl rfl rfl (Nat.le_of_ble_eq_true rfl) (by decide) dX7_set_7 ?_
    refine z_goto C 33 dX7_set_10 (by decide) ?_
    refine z_istore_n C [(3, .int (z_I (if 1 ≤ k ∧ k ≤ 5 then 1 else 0))), (0, .ref hM), (1, .int (z_I w)), (2, .int (z_I k))] dX7_set_33 (by decide) rfl ?_
    refine z_iload_n C 0 dX7_set_34 rfl ?_
    refine z_if_ne C 41 dX7_set_35 (by decide) (by first | omega | (split <;> omega)) (fun hc10 => ?_) (fun hc10 => ?_)
    · first
      | (exfalso; omega)
      | skip
        try have hz2 := z_if1.mp hc10
        refine z_aload_n C 1 dX7_set_41 rfl ?_
        refine z_callVv C [0, 1, 2] [(hM, .inr (7, [.ref aS, .ref aPa, .int (z_I (if kn = 6 then 6 else kn + 1)), .ref aSl, .ref aSv, .ref aPd, .int (z_I ln)])), (aS, z_ai cI 712 f), (aPa, z_ai cI 2136 (z_rem f pf kn))] [] [] (c_X7_remembers l D cI cZ cO hM aS aPa aSl aSv aPd kn ln f pf (by first | assumption | omega)) gX7_set_X7_remembers rfl zd_X7_remembers rfl (by decide) rfl rfl rfl (by decide) rfl rfl rfl (Nat.le_of_ble_eq_true rfl) (by decide) dX7_set_42 ?_
        refine z_aload_n C 1 dX7_set_45 rfl ?_
        refine z_get C 0 0 zi_X7_set_X7 rfl rfl (by decide) zl_X7_set_7 rfl rfl dX7_set_46 ?_
        refine z_iconst C 0 dX7_set_49 ?_
        refine z_iload_n C 2 dX7_set_50 rfl ?_
        refine z_iadd C dX7_set_51 ?_
        refine z_iald C 1 0 rfl rfl (by decide) (by omega) dX7_set_52 ?_
        refine z_istore C [(4, .int (z_I (f (0 + w)))), (3, .int (z_I (if 1 ≤ k ∧ k ≤ 5 then 1 else 0))), (0, .ref hM), (1, .int (z_I w)), (2, .int (z_I k))] dX7_set_53 (by decide) rfl ?_
        refine z_aload_n C 2 dX7_set_55 rfl ?_
        refine z_get C 0 0 zi_X7_set_X7 rfl rfl (by decide) zl_X7_set_7 rfl rfl dX7_set_56 ?_
        refine z_iconst C 0 dX7_set_59 ?_
        refine z_iload_n C 3 dX7_set_60 rfl ?_
        refine z_iadd C dX7_set_61 ?_
        refine z_iload_n C 4 dX7_set_62 rfl ?_
        refine z_iast C 1 0 ([(hM, .inr (7, [.ref aS, .ref aPa, .int (z_I (if kn = 6 then 6 else kn + 1)), .ref aSl, .ref aSv, .ref aPd, .int (z_I ln)])), (aS, z_ai cI 712 (z_u f (0 + w) k)), (aPa, z_ai cI 2136 (z_rem f pf kn))]) rfl rfl (by decide) (by omega) rfl dX7_set_63 ?_
        refine z_iload_n C 3 dX7_set_64 rfl ?_
        refine z_if_ne C 73 dX7_set_65 (by decide) (by omega) (fun hc11 => ?_) (fun hc11 => ?_)
        · skip
          refine z_iload C 0 dX7_set_73 rfl ?_
          exact z_irete C hQ (z_u f (0 + w) k, (z_rem f pf kn), (if kn = 6 then 6 else kn + 1)) rfl (by first | (have hch : (z_chg ct w k) = (z_anew ct k, ct.1.2.1) := by unfold z_chg z_cs; rw [if_pos (show w = 0 by omega), if_pos (by omega)]) ; (exact ⟨by rw [hch, show 0 + w = 0 by omega, y0], by rw [hch]; exact hp1.1, by rw [hch]; exact z_mh_rem hmh hkp hod hrel hok hhr (by show ¬ ct.1.2.1 < 0; omega)⟩) | (have hch : (z_chg ct w k) = ((ct.1, ct.2.1, ct.2.2.1, k, ct.2.2.2.2.1, ct.2.2.2.2.2.1, ct.2.2.2.2.2.2.1, ct.2.2.2.2.2.2.2), ct.2.2.2.1) := by unfold z_chg z_chh; rw [if_neg (show ¬ w = 0 by omega), if_pos (show w = 1 by omega), if_pos (by omega)]) ; (exact ⟨by rw [hch, show 0 + w = 1 by omega, y1], by rw [hch, show 0 + w = 0 + 1 by omega]; exact z_rl_ho hrel hrn.1 hsn.1, by rw [hch]; exact z_mh_rem hmh hkp hod hrel hok hhr (by show ¬ ct.2.2.2.1 < 0; omega)⟩)) dX7_set_75
        · skip
          refine z_aload_n C 2 dX7_set_68 rfl ?_
          refine z_iconst C 0 dX7_set_69 ?_
          refine z_callEv C [0, 1] (fun u1 => [(hM, .inr (7, [.ref aS, .ref aPa, .int (z_I (if kn = 6 then 6 else kn + 1)), .ref aSl, .ref aSv, .ref aPd, .int (z_I ln)])), (aS, z_ai cI 712 u1), (aPa, z_ai cI 2136 (z_rem f pf kn))]) [.int (z_I 0)] [] (c_X7_begins l D cI cZ cO hM aS aPa aSl aSv aPd (if kn = 6 then 6 else kn + 1) ln (z_u f (0 + w) k) 0 ((ct.1.1, k, ct.1.2.2.1, ct.1.2.2.2.1, ct.1.2.2.2.2.1, ct.1.2.2.2.2.2.1, ct.1.2.2.2.2.2.2), ct.2.1, ct.2.2.1, ct.2.2.2.1, ct.2.2.2.2.1, ct.2.2.2.2.2.1, ct.2.2.2.2.2.2.1, ct.2.2.2.2.2.2.2) (fun _ _ => True) (fun k i => ct.1.2.2.2.2.2.2 (k * 21 + (ct.1.1 + i) % 21)) (by first | assumption | omega) (by rw [show 0 + w = 0 by omega]; exact z_rl_st hrel hrn.1 hsn.1)) gX7_set_X7_begins rfl zd_X7_begins rfl (by decide) rfl rfl rfl (by decide) (fun _ => rfl) (fun _ => rfl) rfl (Nat.le_of_ble_eq_true rfl) (by decide) dX7_set_70 (fun u1 hp1 => ?_)
          refine z_iload C 0 dX7_set_73 rfl ?_
          exact z_irete C hQ (u1, (z_rem f pf kn), (if kn = 6 then 6 else kn + 1)) rfl (by first | (have hch : (z_chg ct w k) = (z_anew ct k, ct.1.2.1) := by unfold z_chg z_cs; rw [if_pos (show w = 0 by omega), if_pos (by omega)]) ; (exact ⟨by rw [hch, show 0 + w = 0 by omega, y0], by rw [hch]; exact hp1.1, by rw [hch]; exact z_mh_rem hmh hkp hod hrel hok hhr (by show ¬ ct.1.2.1 < 0; omega)⟩) | (have hch : (z_chg ct w k) = ((ct.1, ct.2.1, ct.2.2.1, k, ct.2.2.2.2.1, ct.2.2.2.2.2.1, ct.2.2.2.2.2.2.1, ct.2.2.2.2.2.2.2), ct.2.2.2.1) := by unfold z_chg z_chh; rw [if_neg (show ¬ w = 0 by omega), if_pos (show w = 1 by omega), if_pos (by omega)]) ; (exact ⟨by rw [hch, show 0 + w = 1 by omega, y1], by rw [hch, show 0 + w = 0 + 1 by omega]; exact z_rl_ho hrel hrn.1 hsn.1, by rw [hch]; exact z_mh_rem hmh hkp hod hrel hok hhr (by show ¬ ct.2.2.2.1 < 0; omega)⟩)) dX7_set_75
    · first
      | (exfalso; omega)
      | skip
        try have hz2 := z_if0.mp hc10
        refine z_bipush C (-2) dX7_set_38 (by decide) ?_
        exact z_irete C hQ (f, pf, kn) rfl ⟨by rw [show (z_chg ct w k) = (ct, -2) from (by unfold z_chg z_cs z_chh; (repeat' split) <;> first | rfl | (exfalso; omega))], by rw [show (z_chg ct w k) = (ct, -2) from (by unfold z_chg z_cs z_chh; (repeat' split) <;> first | rfl | (exfalso; omega))]; exact hrel, by rw [show (z_chg ct w k) = (ct, -2) from (by unfold z_chg z_cs z_chh; (repeat' split) <;> first | rfl | (exfalso; omega))]; exact (z_mh_err hmh hkp hod (by first | omega | (dsimp only; omega)))⟩ dX7_set_40
theorem zi_X7_delay_X7 : ∀ w ∈ u_ws RX7 TX7 7, w ∈ wsX7_delay := by decide +kernel
theorem zl_X7_delay_7 : Cond.fieldLink RX7 7 "RippleCountsModel" "s" "[I" ∈ wsX7_delay := by decide +kernel
theorem zd_X7_delay : yX7_delay.cls ≠ "java/lang/invoke/MethodHandle" ∧ yX7_delay.cls ≠ "java/lang/invoke/VarHandle" ∧ (parseMethodDescriptor yX7_delay.desc).map (fun d => d.parameters.length) = some 2 := by decide +kernel
set_option maxHeartbeats 4000000 in
set_option maxRecDepth 100000 in
theorem c_X7_delay (l : Launch) (D : va_G) (cI cZ cO : ClassId) (hM aS aPa aSl aSv aPd : Nat) (kn ln : Int) (f : Int → Int) (pf : Int → Int) (ct : z_Ct) (kp od : Int) (hr : Int → z_Ct) (k v : Int) (hrel : z_rel ct 0 f) (hok : z_ok ct) (htt : ct.1.1 ≤ 9999) (hmh : z_mh kp od hr kn pf) (hkp : 0 ≤ kp ∧ kp ≤ 6) (hod : 0 ≤ od ∧ od < 7) (hhr : ∀ j : Int, 0 ≤ j → j < 7 → z_ok (hr j)) (hk : -2147483648 ≤ k ∧ k < 2147483648) (hv : -2147483648 ≤ v ∧ v < 2147483648) : z_Ei ((Int → Int) × (Int → Int) × Int) l yX7_delay wsX7_delay 2 44 D (z_T cI cZ cO) [.ref hM, .int (z_I k), .int (z_I v)] ([(hM, .inr (7, [.ref aS, .ref aPa, .int (z_I kn), .ref aSl, .ref aSv, .ref aPd, .int (z_I ln)])), (aS, z_ai cI 712 f), (aPa, z_ai cI 2136 pf)]) (fun u => [(hM, .inr (7, [.ref aS, .ref aPa, .int (z_I u.2.2), .ref aSl, .ref aSv, .ref aPd, .int (z_I ln)])), (aS, z_ai cI 712 u.1), (aPa, z_ai cI 2136 u.2.1)]) (fun ri u => ri = (z_cd ct k v).2 ∧ z_rel (z_cd ct k v).1 0 u.1 ∧ z_mh (z_stK (z_cd ct k v).2 kp) (z_stO (z_cd ct k v).2 kp od) (z_uc hr ((od + kp) % 7) ct) u.2.2 u.2.1) := by
  refine z_Ei_of (cc := cX7_delay) (nL := 5) (ret := (some .int)) (by decide +kernel) rfl (Nat.le_of_ble_eq_true rfl) ?_
  intro p e s m args below meth c A Q C hQ
  change z_V p l e { frames := 2, cells := 0, slots := 0, locals := 44 } s m args below meth c D A 5 0 0 Q ([(hM, .inr (7, [.ref aS, .ref aPa, .int (z_I kn), .ref aSl, .ref aSv, .ref aPd, .int (z_I ln)])), (aS, z_ai cI 712 f), (aPa, z_ai cI 2136 pf)]) 0 [(0, .ref hM), (1, .int (z_I k)), (2, .int (z_I v))] []
  obtain ⟨hw, hrd, hsg, hho, hck, hlc, hld, hlw, hrl0⟩ := id hok
  obtain ⟨ht0, hst, hsh, hdl, hdu, hdn, hB, htot, hbit, hzero, how⟩ := id hw
  obtain ⟨hrn, hrr, hla⟩ := id hrd
  obtain ⟨hsn, hrk, hfo, hcnt, hinj, hsur⟩ := id hsg
  have hp := z_p2_le (k := ct.1.2.1) (by omega)
  obtain ⟨y0, y1, y2, y3, y4, y5, y6, y7, y8⟩ := hrel.1
  simp only [Int.zero_add] at y1 y2 y3 y4 y5 y6 y7 y8
  have hkn := hmh.1
  refine z_aload_n C 0 dX7_delay_0 rfl ?_
  refine z_iload_n C 1 dX7_delay_1 rfl ?_
  refine z_iload_n C 2 dX7_delay_2 rfl ?_
  refine z_callVi C [0, 1] [(hM, .inr (7, [.ref aS, .ref aPa, .int (z_I kn), .ref aSl, .ref aSv, .ref aPd, .int (z_I ln)])), (aS, z_ai cI 712 f), (aPa, z_ai cI 2136 pf)] [.int (z_I k), .int (z_I v)] [] (c_X7_whyNotDelay l D cI cZ cO hM aS aPa aSl aSv aPd kn ln f ct k v (by first | assumption | omega) (by first | assumption | omega) (by first | assumption | omega) (by first | assumption | omega) (by first | assumption | omega)) gX7_delay_X7_whyNotDelay rfl zd_X7_whyNotDelay rfl (by decide) rfl rfl rfl (by decide) rfl rfl rfl (Nat.le_of_ble_eq_true rfl) (by decide) dX7_delay_3 ?_
  have hwd : ((if 0 ≤ k ∧ k < ct.1.2.1 then (if 1 ≤ v ∧ v ≤ 20 then 0 else -2) else -1) = 0 ∧ (0 ≤ k ∧ k < ct.1.2.1) ∧ (1 ≤ v ∧ v ≤ 20)) ∨ ((if 0 ≤ k ∧ k < ct.1.2.1 then (if 1 ≤ v ∧ v ≤ 20 then 0 else -2) else -1) = -2 ∧ (0 ≤ k ∧ k < ct.1.2.1) ∧ ¬ (1 ≤ v ∧ v ≤ 20)) ∨ ((if 0 ≤ k ∧ k < ct.1.2.1 then (if 1 ≤ v ∧ v ≤ 20 then 0 else -2) else -1) = -1 ∧ ¬ (0 ≤ k ∧ k < ct.1.2.1)) := by
    by_cases q : 0 ≤ k ∧ k < ct.1.2.1
    · by_cases q2 : 1 ≤ v ∧ v ≤ 20
      · rw [if_pos q, if_pos q2]; exact Or.inl ⟨rfl, q, q2⟩
      · rw [if_pos q, if_neg q2]; exact Or.inr (Or.inl ⟨rfl, q, q2⟩)
    · rw [if_neg q]; exact Or.inr (Or.inr ⟨rfl, q⟩)
  generalize hwq : (if 0 ≤ k ∧ k < ct.1.2.1 then (if 1 ≤ v ∧ v ≤ 20 then 0 else -2) else -1) = wq at hwd ⊢
  refine z_istore_n C [(3, .int (z_I wq)), (0, .ref hM), (1, .int (z_I k)), (2, .int (z_I v))] dX7_delay_6 (by decide) rfl ?_
  refine z_iload_n C 0 dX7_delay_7 rfl ?_
  refine z_if_ge C 13 dX7_delay_8 (by decide) (by omega) (fun hc1 => ?_) (fun hc1 => ?_)
  · skip
    have hin : (0 ≤ k ∧ k < ct.1.2.1) ∧ (1 ≤ v ∧ v ≤ 20) := by omega
    have hcd : (z_cd ct k v) = (((ct.1.1, ct.1.2.1, ct.1.2.2.1, ct.1.2.2.2.1, z_u ct.1.2.2.2.2.1 k v, ct.1.2.2.2.2.2.1, ct.1.2.2.2.2.2.2), ct.2.1, ct.2.2.1, ct.2.2.2.1, ct.2.2.2.2.1, ct.2.2.2.2.2.1, ct.2.2.2.2.2.2.1, ct.2.2.2.2.2.2.2), ct.1.2.2.2.2.1 k) := by unfold z_cd; rw [if_pos hin.1, if_pos hin.2]
    have h9k : f (9 + k) = ct.1.2.2.2.2.1 k := by have h9 := (hrel.2.1 k (by omega) (by omega)).1; rw [Int.zero_add] at h9; exact h9
    have hd9 := hdl k (by omega) (by omega)
    refine z_aload_n C 1 dX7_delay_13 rfl ?_
    refine z_callVv C [0, 1, 2] [(hM, .inr (7, [.ref aS, .ref aPa, .int (z_I (if kn = 6 then 6 else kn + 1)), .ref aSl, .ref aSv, .ref aPd, .int (z_I ln)])), (aS, z_ai cI 712 f), (aPa, z_ai cI 2136 (z_rem f pf kn))] [] [] (c_X7_remembers l D cI cZ cO hM aS aPa aSl aSv aPd kn ln f pf (by omega)) gX7_delay_X7_remembers rfl zd_X7_remembers rfl (by decide) rfl rfl rfl (by decide) rfl rfl rfl (Nat.le_of_ble_eq_true rfl) (by decide) dX7_delay_14 ?_
    refine z_aload_n C 1 dX7_delay_17 rfl ?_
    refine z_get C 0 0 zi_X7_delay_X7 rfl rfl (by decide) zl_X7_delay_7 rfl rfl dX7_delay_18 ?_
    refine z_bipush C 9 dX7_delay_21 (by decide) ?_
    refine z_iload_n C 2 dX7_delay_23 rfl ?_
    refine z_iadd C dX7_delay_24 ?_
    refine z_iald C 1 0 rfl rfl (by decide) (by omega) dX7_delay_25 ?_
    refine z_istore C [(4, .int (z_I (f (9 + k)))), (3, .int (z_I wq)), (0, .ref hM), (1, .int (z_I k)), (2, .int (z_I v))] dX7_delay_26 (by decide) rfl ?_
    refine z_aload_n C 2 dX7_delay_28 rfl ?_
    refine z_get C 0 0 zi_X7_delay_X7 rfl rfl (by decide) zl_X7_delay_7 rfl rfl dX7_delay_29 ?_
    refine z_bipush C 9 dX7_delay_32 (by decide) ?_
    refine z_iload_n C 3 dX7_delay_34 rfl ?_
    refine z_iadd C dX7_delay_35 ?_
    refine z_iload_n C 4 dX7_delay_36 rfl ?_
    refine z_iast C 1 0 ([(hM, .inr (7, [.ref aS, .ref aPa, .int (z_I (if kn = 6 then 6 else kn + 1)), .ref aSl, .ref aSv, .ref aPd, .int (z_I ln)])), (aS, z_ai cI 712 (z_u f (9 + k) v)), (aPa, z_ai cI 2136 (z_rem f pf kn))]) rfl rfl (by decide) (by omega) rfl dX7_delay_37 ?_
    refine z_iload C 0 dX7_delay_38 rfl ?_
    exact z_irete C hQ (z_u f (9 + k) v, (z_rem f pf kn), (if kn = 6 then 6 else kn + 1)) rfl ⟨by rw [hcd, h9k], by rw [hcd, show 9 + k = 0 + 9 + k by omega]; exact z_rl_dly hrel (by omega) hrn.1 hsn.1, by rw [hcd]; exact z_mh_rem hmh hkp hod hrel hok hhr (by show ¬ ct.1.2.2.2.2.1 k < 0; omega)⟩ dX7_delay_40
  · skip
    refine z_iload_n C 0 dX7_delay_11 rfl ?_
    exact z_irete C hQ (f, pf, kn) rfl (by rcases hwd with h9 | h9 | h9; (· omega); (· exact ⟨by rw [show (z_cd ct k v) = (ct, -2) from by unfold z_cd; rw [if_pos h9.2.1, if_neg h9.2.2]]; omega, by rw [show (z_cd ct k v) = (ct, -2) from by unfold z_cd; rw [if_pos h9.2.1, if_neg h9.2.2]]; exact hrel, by rw [show (z_cd ct k v) = (ct, -2) from by unfold z_cd; rw [if_pos h9.2.1, if_neg h9.2.2]]; exact (z_mh_err hmh hkp hod (by first | omega | (dsimp only; omega)))⟩); (· exact ⟨by rw [show (z_cd ct k v) = (ct, -1) from by unfold z_cd; rw [if_neg h9.2]]; omega, by rw [show (z_cd ct k v) = (ct, -1) from by unfold z_cd; rw [if_neg h9.2]]; exact hrel, by rw [show (z_cd ct k v) = (ct, -1) from by unfold z_cd; rw [if_neg h9.2]]; exact (z_mh_err hmh hkp hod (by first | omega | (dsimp only; omega)))⟩)) dX7_delay_12
theorem zi_X7_clock_X7 : ∀ w ∈ u_ws RX7 TX7 7, w ∈ wsX7_clock := by decide +kernel
theorem zl_X7_clock_7 : Cond.fieldLink RX7 7 "RippleCountsModel" "s" "[I" ∈ wsX7_clock := by decide +kernel
theorem zd_X7_clock : yX7_clock.cls ≠ "java/lang/invoke/MethodHandle" ∧ yX7_clock.cls ≠ "java/lang/invoke/VarHandle" ∧ (parseMethodDescriptor yX7_clock.desc).map (fun d => d.parameters.length) = some 0 := by decide +kernel
set_option maxHeartbeats 4000000 in
set_option maxRecDepth 100000 in
theorem c_X7_clock (l : Launch) (D : va_G) (cI cZ cO : ClassId) (hM aS aPa aSl aSv aPd : Nat) (kn ln : Int) (f : Int → Int) (pf : Int → Int) (ct : z_Ct) (kp od : Int) (hr : Int → z_Ct) (hrel : z_rel ct 0 f) (hok : z_ok ct) (htt : ct.1.1 ≤ 9999) (hmh : z_mh kp od hr kn pf) (hkp : 0 ≤ kp ∧ kp ≤ 6) (hod : 0 ≤ od ∧ od < 7) (hhr : ∀ j : Int, 0 ≤ j → j < 7 → z_ok (hr j)) : z_Ei ((Int → Int) × (Int → Int) × Int) l yX7_clock wsX7_clock 4 85 D (z_T cI cZ cO) [.ref hM] ([(hM, .inr (7, [.ref aS, .ref aPa, .int (z_I kn), .ref aSl, .ref aSv, .ref aPd, .int (z_I ln)])), (aS, z_ai cI 712 f), (aPa, z_ai cI 2136 pf)]) (fun u => [(hM, .inr (7, [.ref aS, .ref aPa, .int (z_I u.2.2), .ref aSl, .ref aSv, .ref aPd, .int (z_I ln)])), (aS, z_ai cI 712 u.1), (aPa, z_ai cI 2136 u.2.1)]) (fun ri u => ri = (z_tcA ct) ∧ z_rel (z_tc ct) 0 u.1 ∧ z_mh (z_stK (z_tcA ct) kp) (z_stO (z_tcA ct) kp od) (z_uc hr ((od + kp) % 7) ct) u.2.2 u.2.1) := by
  refine z_Ei_of (cc := cX7_clock) (nL := 1) (ret := (some .int)) (by decide +kernel) rfl (Nat.le_of_ble_eq_true rfl) ?_
  intro p e s m args below meth c A Q C hQ
  change z_V p l e { frames := 4, cells := 0, slots := 0, locals := 85 } s m args below meth c D A 1 0 0 Q ([(hM, .inr (7, [.ref aS, .ref aPa, .int (z_I kn), .ref aSl, .ref aSv, .ref aPd, .int (z_I ln)])), (aS, z_ai cI 712 f), (aPa, z_ai cI 2136 pf)]) 0 [(0, .ref hM)] []
  obtain ⟨hw, hrd, hsg, hho, hck, hlc, hld, hlw, hrl0⟩ := id hok
  obtain ⟨ht0, hst, hsh, hdl, hdu, hdn, hB, htot, hbit, hzero, how⟩ := id hw
  obtain ⟨hrn, hrr, hla⟩ := id hrd
  obtain ⟨hsn, hrk, hfo, hcnt, hinj, hsur⟩ := id hsg
  have hp := z_p2_le (k := ct.1.2.1) (by omega)
  obtain ⟨y0, y1, y2, y3, y4, y5, y6, y7, y8⟩ := hrel.1
  simp only [Int.zero_add] at y1 y2 y3 y4 y5 y6 y7 y8
  have hkn := hmh.1
  refine z_aload_n C 0 dX7_clock_0 rfl ?_
  refine z_get C 0 0 zi_X7_clock_X7 rfl rfl (by decide) zl_X7_clock_7 rfl rfl dX7_clock_1 ?_
  refine z_iconst C 4 dX7_clock_4 ?_
  refine z_iald C 1 0 rfl rfl (by decide) (by omega) dX7_clock_5 ?_
  refine z_aload_n C 0 dX7_clock_6 rfl ?_
  refine z_get C 0 0 zi_X7_clock_X7 rfl rfl (by decide) zl_X7_clock_7 rfl rfl dX7_clock_7 ?_
  refine z_iconst C 2 dX7_clock_10 ?_
  refine z_iald C 1 0 rfl rfl (by decide) (by omega) dX7_clock_11 ?_
  refine z_icmp_ne C 18 dX7_clock_12 (by decide) (by omega) (by omega) (fun hc1 => ?_) (fun hc1 => ?_)
  · skip
    have hE : ¬ ct.2.2.2.2.2.1 = ct.1.1 := by omega
    have hA : z_tcA ct = (ct.2.2.2.2.1 + 1) % z_p2 ct.1.2.1 := if_neg hE
    have hA2 := Int.emod_nonneg (ct.2.2.2.2.1 + 1) (by omega : ¬ z_p2 ct.1.2.1 = 0)
    refine z_aload_n C 0 dX7_clock_18 rfl ?_
    refine z_callVv C [0, 1, 2] [(hM, .inr (7, [.ref aS, .ref aPa, .int (z_I (if kn = 6 then 6 else kn + 1)), .ref aSl, .ref aSv, .ref aPd, .int (z_I ln)])), (aS, z_ai cI 712 f), (aPa, z_ai cI 2136 (z_rem f pf kn))] [] [] (c_X7_remembers l D cI cZ cO hM aS aPa aSl aSv aPd kn ln f pf (by omega)) gX7_clock_X7_remembers rfl zd_X7_remembers rfl (by decide) rfl rfl rfl (by decide) rfl rfl rfl (Nat.le_of_ble_eq_true rfl) (by decide) dX7_clock_19 ?_
    refine z_aload_n C 0 dX7_clock_22 rfl ?_
    refine z_callEi C [0, 1] (fun u1 => [(hM, .inr (7, [.ref aS, .ref aPa, .int (z_I (if kn = 6 then 6 else kn + 1)), .ref aSl, .ref aSv, .ref aPd, .int (z_I ln)])), (aS, z_ai cI 712 u1), (aPa, z_ai cI 2136 (z_rem f pf kn))]) [] [] (c_X7_clockNow l D cI cZ cO hM aS aPa aSl aSv aPd (if kn = 6 then 6 else kn + 1) ln f ct (by first | assumption | omega) (by first | assumption | omega) (by first | assumption | omega)) gX7_clock_X7_clockNow rfl zd_X7_clockNow rfl (by decide) rfl rfl rfl (by decide) (fun _ => rfl) (fun _ => rfl) rfl (Nat.le_of_ble_eq_true rfl) (by decide) dX7_clock_23 (fun u1 ri1 hp1 => ?_)
    exact z_irete C hQ (u1, (z_rem f pf kn), (if kn = 6 then 6 else kn + 1)) rfl ⟨hp1.1, hp1.2.1, z_mh_rem hmh hkp hod hrel hok hhr (by rw [hA]; omega)⟩ dX7_clock_26
  · skip
    have hE : ct.2.2.2.2.2.1 = ct.1.1 := by omega
    have hA : z_tcA ct = -5 := if_pos hE
    have hB2 : z_tc ct = ct := if_pos hE
    refine z_bipush C (-5) dX7_clock_15 (by decide) ?_
    exact z_irete C hQ (f, pf, kn) rfl ⟨by rw [hA], by rw [hB2]; exact hrel, by rw [hA]; exact (z_mh_err hmh hkp hod (by first | omega | (dsimp only; omega)))⟩ dX7_clock_17
theorem zd_X7_pass : yX7_pass.cls ≠ "java/lang/invoke/MethodHandle" ∧ yX7_pass.cls ≠ "java/lang/invoke/VarHandle" ∧ (parseMethodDescriptor yX7_pass.desc).map (fun d => d.parameters.length) = some 1 := by decide +kernel
set_option maxHeartbeats 4000000 in
set_option maxRecDepth 100000 in
theorem c_X7_pass (l : Launch) (D : va_G) (cI cZ cO : ClassId) (hM aS aPa aSl aSv aPd : Nat) (kn ln : Int) (f : Int → Int) (pf : Int → Int) (ct : z_Ct) (kp od : Int) (hr : Int → z_Ct) (k : Int) (hrel : z_rel ct 0 f) (hok : z_ok ct) (htt : ct.1.1 ≤ 9999) (hmh : z_mh kp od hr kn pf) (hkp : 0 ≤ kp ∧ kp ≤ 6) (hod : 0 ≤ od ∧ od < 7) (hhr : ∀ j : Int, 0 ≤ j → j < 7 → z_ok (hr j)) (hk : -2147483648 ≤ k ∧ k < 2147483648) : z_Ei ((Int → Int) × (Int → Int) × Int) l yX7_pass wsX7_pass 5 117 D (z_T cI cZ cO) [.ref hM, .int (z_I k)] ([(hM, .inr (7, [.ref aS, .ref aPa, .int (z_I kn), .ref aSl, .ref aSv, .ref aPd, .int (z_I ln)])), (aS, z_ai cI 712 f), (aPa, z_ai cI 2136 pf)]) (fun u => [(hM, .inr (7, [.ref aS, .ref aPa, .int (z_I u.2.2), .ref aSl, .ref aSv, .ref aPd, .int (z_I ln)])), (aS, z_ai cI 712 u.1), (aPa, z_ai cI 2136 u.2.1)]) (fun ri u => ri = (z_lp ct k).2 ∧ z_rel (z_lp ct k).1 0 u.1 ∧ z_mh (z_stK (z_lp ct k).2 kp) (z_stO (z_lp ct k).2 kp od) (z_uc hr ((od + kp) % 7) ct) u.2.2 u.2.1) := by
  refine z_Ei_of (cc := cX7_pass) (nL := 3) (ret := (some .int)) (by decide +kernel) rfl (Nat.le_of_ble_eq_true rfl) ?_
  intro p e s m args below meth c A Q C hQ
  change z_V p l e { frames := 5, cells := 0, slots := 0, locals := 117 } s m args below meth c D A 3 0 0 Q ([(hM, .inr (7, [.ref aS, .ref aPa, .int (z_I kn), .ref aSl, .ref aSv, .ref aPd, .int (z_I ln)])), (aS, z_ai cI 712 f), (aPa, z_ai cI 2136 pf)]) 0 [(0, .ref hM), (1, .int (z_I k))] []
  obtain ⟨hw, hrd, hsg, hho, hck, hlc, hld, hlw, hrl0⟩ := id hok
  obtain ⟨ht0, hst, hsh, hdl, hdu, hdn, hB, htot, hbit, hzero, how⟩ := id hw
  obtain ⟨hrn, hrr, hla⟩ := id hrd
  obtain ⟨hsn, hrk, hfo, hcnt, hinj, hsur⟩ := id hsg
  have hp := z_p2_le (k := ct.1.2.1) (by omega)
  obtain ⟨y0, y1, y2, y3, y4, y5, y6, y7, y8⟩ := hrel.1
  simp only [Int.zero_add] at y1 y2 y3 y4 y5 y6 y7 y8
  have hkn := hmh.1
  refine z_aload_n C 0 dX7_pass_0 rfl ?_
  refine z_iload_n C 1 dX7_pass_1 rfl ?_
  refine z_callVi C [0, 1] [(hM, .inr (7, [.ref aS, .ref aPa, .int (z_I kn), .ref aSl, .ref aSv, .ref aPd, .int (z_I ln)])), (aS, z_ai cI 712 f), (aPa, z_ai cI 2136 pf)] [.int (z_I k)] [] (c_X7_whyNotPass l D cI cZ cO hM aS aPa aSl aSv aPd kn ln f ct k (by first | assumption | omega) (by first | assumption | omega) (by first | assumption | omega) (by first | assumption | omega)) gX7_pass_X7_whyNotPass rfl zd_X7_whyNotPass rfl (by decide) rfl rfl rfl (by decide) rfl rfl rfl (Nat.le_of_ble_eq_true rfl) (by decide) dX7_pass_2 ?_
  have hwd : ((if 1 ≤ k ∧ k ≤ 99 then (if ct.1.1 + k ≤ 9999 then 0 else -5) else -2) = 0 ∧ (1 ≤ k ∧ k ≤ 99) ∧ ct.1.1 + k ≤ 9999) ∨ ((if 1 ≤ k ∧ k ≤ 99 then (if ct.1.1 + k ≤ 9999 then 0 else -5) else -2) = -5 ∧ (1 ≤ k ∧ k ≤ 99) ∧ ¬ ct.1.1 + k ≤ 9999) ∨ ((if 1 ≤ k ∧ k ≤ 99 then (if ct.1.1 + k ≤ 9999 then 0 else -5) else -2) = -2 ∧ ¬ (1 ≤ k ∧ k ≤ 99)) := by
    by_cases q : 1 ≤ k ∧ k ≤ 99
    · by_cases q2 : ct.1.1 + k ≤ 9999
      · rw [if_pos q, if_pos q2]; exact Or.inl ⟨rfl, q, q2⟩
      · rw [if_pos q, if_neg q2]; exact Or.inr (Or.inl ⟨rfl, q, q2⟩)
    · rw [if_neg q]; exact Or.inr (Or.inr ⟨rfl, q⟩)
  generalize hwq : (if 1 ≤ k ∧ k ≤ 99 then (if ct.1.1 + k ≤ 9999 then 0 else -5) else -2) = wq at hwd ⊢
  refine z_istore_n C [(2, .int (z_I wq)), (0, .ref hM), (1, .int (z_I k))] dX7_pass_5 (by decide) rfl ?_
  refine z_iload_n C 0 dX7_pass_6 rfl ?_
  refine z_if_ge C 12 dX7_pass_7 (by decide) (by omega) (fun hc1 => ?_) (fun hc1 => ?_)
  · skip
    have hin : (1 ≤ k ∧ k ≤ 99) ∧ ct.1.1 + k ≤ 9999 := by omega
    have hcd : (z_lp ct k) = z_ps ct k.toNat := by unfold z_lp; rw [if_pos hin.1, if_pos hin.2]
    have hps := z_ps_aux hok k.toNat
    refine z_aload_n C 1 dX7_pass_12 rfl ?_
    refine z_callVv C [0, 1, 2] [(hM, .inr (7, [.ref aS, .ref aPa, .int (z_I (if kn = 6 then 6 else kn + 1)), .ref aSl, .ref aSv, .ref aPd, .int (z_I ln)])), (aS, z_ai cI 712 f), (aPa, z_ai cI 2136 (z_rem f pf kn))] [] [] (c_X7_remembers l D cI cZ cO hM aS aPa aSl aSv aPd kn ln f pf (by omega)) gX7_pass_X7_remembers rfl zd_X7_remembers rfl (by decide) rfl rfl rfl (by decide) rfl rfl rfl (Nat.le_of_ble_eq_true rfl) (by decide) dX7_pass_13 ?_
    refine z_aload_n C 1 dX7_pass_16 rfl ?_
    refine z_iconst C 0 dX7_pass_17 ?_
    refine z_iload_n C 2 dX7_pass_18 rfl ?_
    refine z_callEi C [0, 1] (fun u1 => [(hM, .inr (7, [.ref aS, .ref aPa, .int (z_I (if kn = 6 then 6 else kn + 1)), .ref aSl, .ref aSv, .ref aPd, .int (z_I ln)])), (aS, z_ai cI 712 u1), (aPa, z_ai cI 2136 (z_rem f pf kn))]) [.int (z_I 0), .int (z_I k)] [] (c_X7_passes l D cI cZ cO hM aS aPa aSl aSv aPd (if kn = 6 then 6 else kn + 1) ln f 0 ct k (by first | assumption | omega) hrel (by first | assumption | omega) (by first | assumption | omega) (by first | assumption | omega)) gX7_pass_X7_passes rfl zd_X7_passes rfl (by decide) rfl rfl rfl (by decide) (fun _ => rfl) (fun _ => rfl) rfl (Nat.le_of_ble_eq_true rfl) (by decide) dX7_pass_19 (fun u1 ri1 hp1 => ?_)
    exact z_irete C hQ (u1, (z_rem f pf kn), (if kn = 6 then 6 else kn + 1)) rfl ⟨by rw [hcd]; exact hp1.1, by rw [hcd]; exact hp1.2.1, by rw [hcd]; exact z_mh_rem hmh hkp hod hrel hok hhr (by omega)⟩ dX7_pass_22
  · skip
    refine z_iload_n C 0 dX7_pass_10 rfl ?_
    exact z_irete C hQ (f, pf, kn) rfl (by rcases hwd with h9 | h9 | h9; (· omega); (· exact ⟨by rw [show (z_lp ct k) = (ct, -5) from by unfold z_lp; rw [if_pos h9.2.1, if_neg h9.2.2]]; omega, by rw [show (z_lp ct k) = (ct, -5) from by unfold z_lp; rw [if_pos h9.2.1, if_neg h9.2.2]]; exact hrel, by rw [show (z_lp ct k) = (ct, -5) from by unfold z_lp; rw [if_pos h9.2.1, if_neg h9.2.2]]; exact (z_mh_err hmh hkp hod (by first | omega | (dsimp only; omega)))⟩); (· exact ⟨by rw [show (z_lp ct k) = (ct, -2) from by unfold z_lp; rw [if_neg h9.2]]; omega, by rw [show (z_lp ct k) = (ct, -2) from by unfold z_lp; rw [if_neg h9.2]]; exact hrel, by rw [show (z_lp ct k) = (ct, -2) from by unfold z_lp; rw [if_neg h9.2]]; exact (z_mh_err hmh hkp hod (by first | omega | (dsimp only; omega)))⟩)) dX7_pass_11
theorem zd_X7_read : yX7_read.cls ≠ "java/lang/invoke/MethodHandle" ∧ yX7_read.cls ≠ "java/lang/invoke/VarHandle" ∧ (parseMethodDescriptor yX7_read.desc).map (fun d => d.parameters.length) = some 0 := by decide +kernel
set_option maxHeartbeats 4000000 in
set_option maxRecDepth 100000 in
theorem c_X7_read (l : Launch) (D : va_G) (cI cZ cO : ClassId) (hM aS aPa aSl aSv aPd : Nat) (kn ln : Int) (f : Int → Int) (pf : Int → Int) (ct : z_Ct) (kp od : Int) (hr : Int → z_Ct) (hrel : z_rel ct 0 f) (hok : z_ok ct) (htt : ct.1.1 ≤ 9999) (hmh : z_mh kp od hr kn pf) (hkp : 0 ≤ kp ∧ kp ≤ 6) (hod : 0 ≤ od ∧ od < 7) (hhr : ∀ j : Int, 0 ≤ j → j < 7 → z_ok (hr j)) : z_Ei ((Int → Int) × (Int → Int) × Int) l yX7_read wsX7_read 3 66 D (z_T cI cZ cO) [.ref hM] ([(hM, .inr (7, [.ref aS, .ref aPa, .int (z_I kn), .ref aSl, .ref aSv, .ref aPd, .int (z_I ln)])), (aS, z_ai cI 712 f), (aPa, z_ai cI 2136 pf)]) (fun u => [(hM, .inr (7, [.ref aS, .ref aPa, .int (z_I u.2.2), .ref aSl, .ref aSv, .ref aPd, .int (z_I ln)])), (aS, z_ai cI 712 u.1), (aPa, z_ai cI 2136 u.2.1)]) (fun ri u => ri = (z_rg ct).2 ∧ z_rel (z_rg ct).1 0 u.1 ∧ z_mh (z_stK (z_rg ct).2 kp) (z_stO (z_rg ct).2 kp od) (z_uc hr ((od + kp) % 7) ct) u.2.2 u.2.1) := by
  refine z_Ei_of (cc := cX7_read) (nL := 1) (ret := (some .int)) (by decide +kernel) rfl (Nat.le_of_ble_eq_true rfl) ?_
  intro p e s m args below meth c A Q C hQ
  change z_V p l e { frames := 3, cells := 0, slots := 0, locals := 66 } s m args below meth c D A 1 0 0 Q ([(hM, .inr (7, [.ref aS, .ref aPa, .int (z_I kn), .ref aSl, .ref aSv, .ref aPd, .int (z_I ln)])), (aS, z_ai cI 712 f), (aPa, z_ai cI 2136 pf)]) 0 [(0, .ref hM)] []
  obtain ⟨hw, hrd, hsg, hho, hck, hlc, hld, hlw, hrl0⟩ := id hok
  obtain ⟨ht0, hst, hsh, hdl, hdu, hdn, hB, htot, hbit, hzero, how⟩ := id hw
  obtain ⟨hrn, hrr, hla⟩ := id hrd
  obtain ⟨hsn, hrk, hfo, hcnt, hinj, hsur⟩ := id hsg
  have hp := z_p2_le (k := ct.1.2.1) (by omega)
  obtain ⟨y0, y1, y2, y3, y4, y5, y6, y7, y8⟩ := hrel.1
  simp only [Int.zero_add] at y1 y2 y3 y4 y5 y6 y7 y8
  have hkn := hmh.1
  refine z_aload_n C 0 dX7_read_0 rfl ?_
  refine z_callVi C [0, 1] [(hM, .inr (7, [.ref aS, .ref aPa, .int (z_I kn), .ref aSl, .ref aSv, .ref aPd, .int (z_I ln)])), (aS, z_ai cI 712 f), (aPa, z_ai cI 2136 pf)] [] [] (c_X7_whyNotRead l D cI cZ cO hM aS aPa aSl aSv aPd kn ln f ct (by first | assumption | omega) (by first | assumption | omega) (by first | assumption | omega)) gX7_read_X7_whyNotRead rfl zd_X7_whyNotRead rfl (by decide) rfl rfl rfl (by decide) rfl rfl rfl (Nat.le_of_ble_eq_true rfl) (by decide) dX7_read_1 ?_
  have hwd : ((if 99 ≤ ct.2.1.1 + ct.2.2.2.2.2.2.2 then -4 else 0) = -4 ∧ 99 ≤ ct.2.1.1 + ct.2.2.2.2.2.2.2) ∨ ((if 99 ≤ ct.2.1.1 + ct.2.2.2.2.2.2.2 then -4 else 0) = 0 ∧ ¬ 99 ≤ ct.2.1.1 + ct.2.2.2.2.2.2.2) := by
    by_cases q : 99 ≤ ct.2.1.1 + ct.2.2.2.2.2.2.2
    · rw [if_pos q]; exact Or.inl ⟨rfl, q⟩
    · rw [if_neg q]; exact Or.inr ⟨rfl, q⟩
  generalize hwq : (if 99 ≤ ct.2.1.1 + ct.2.2.2.2.2.2.2 then -4 else 0) = wq at hwd ⊢
  refine z_if_ge C 10 dX7_read_4 (by decide) (by omega) (fun hc1 => ?_) (fun hc1 => ?_)
  · skip
    have hcd : (z_rg ct) = ((ct.1, (z_rad ct.2.1 ct.1.2.2.1 ct.1.1 ct.2.2.2.2.1 0), ct.2.2.1, ct.2.2.2.1, ct.2.2.2.2.1, ct.2.2.2.2.2.1, ct.2.2.2.2.2.2.1, ct.2.2.2.2.2.2.2), ct.1.2.2.1) := by unfold z_rg; rw [if_neg (by omega)]
    refine z_aload_n C 0 dX7_read_10 rfl ?_
    refine z_callVv C [0, 1, 2] [(hM, .inr (7, [.ref aS, .ref aPa, .int (z_I (if kn = 6 then 6 else kn + 1)), .ref aSl, .ref aSv, .ref aPd, .int (z_I ln)])), (aS, z_ai cI 712 f), (aPa, z_ai cI 2136 (z_rem f pf kn))] [] [] (c_X7_remembers l D cI cZ cO hM aS aPa aSl aSv aPd kn ln f pf (by omega)) gX7_read_X7_remembers rfl zd_X7_remembers rfl (by decide) rfl rfl rfl (by decide) rfl rfl rfl (Nat.le_of_ble_eq_true rfl) (by decide) dX7_read_11 ?_
    refine z_aload_n C 0 dX7_read_14 rfl ?_
    refine z_iconst C 0 dX7_read_15 ?_
    refine z_iconst C 0 dX7_read_16 ?_
    refine z_callEv C [0, 1] (fun u1 => [(hM, .inr (7, [.ref aS, .ref aPa, .int (z_I (if kn = 6 then 6 else kn + 1)), .ref aSl, .ref aSv, .ref aPd, .int (z_I ln)])), (aS, z_ai cI 712 u1), (aPa, z_ai cI 2136 (z_rem f pf kn))]) [.int (z_I 0), .int (z_I 0)] [] (c_X7_reads l D cI cZ cO hM aS aPa aSl aSv aPd (if kn = 6 then 6 else kn + 1) ln f 0 ct (fun _ _ => True) (fun k i => ct.1.2.2.2.2.2.2 (k * 21 + (ct.1.1 + i) % 21)) 0 (by first | assumption | omega) hrel (by first | assumption | omega) (by first | assumption | omega) (by omega)) gX7_read_X7_reads rfl zd_X7_reads rfl (by decide) rfl rfl rfl (by decide) (fun _ => rfl) (fun _ => rfl) rfl (Nat.le_of_ble_eq_true rfl) (by decide) dX7_read_17 (fun u1 hp1 => ?_)
    have hz1 := z_out01 hp1.1
    have hu0 : u1 0 = ct.1.2.1 := hp1.1.1.1
    have hshw := z_shows hp1.1 hst hsh
    refine z_aload_n C 0 dX7_read_20 rfl ?_
    refine z_iconst C 0 dX7_read_21 ?_
    refine z_callVi C [0, 1] [(hM, .inr (7, [.ref aS, .ref aPa, .int (z_I (if kn = 6 then 6 else kn + 1)), .ref aSl, .ref aSv, .ref aPd, .int (z_I ln)])), (aS, z_ai cI 712 u1), (aPa, z_ai cI 2136 (z_rem f pf kn))] [.int (z_I 0)] [] (c_X7_shows l D cI cZ cO hM aS aPa aSl aSv aPd (if kn = 6 then 6 else kn + 1) ln u1 0 (by first | assumption | omega) (by omega) hz1) gX7_read_X7_shows rfl zd_X7_shows rfl (by decide) rfl rfl rfl (by decide) rfl rfl rfl (Nat.le_of_ble_eq_true rfl) (by decide) dX7_read_22 ?_
    rw [hshw]
    exact z_irete C hQ (u1, (z_rem f pf kn), (if kn = 6 then 6 else kn + 1)) rfl ⟨by rw [hcd], by rw [hcd]; exact hp1.1, by rw [hcd]; exact z_mh_rem hmh hkp hod hrel hok hhr (by show ¬ ct.1.2.2.1 < 0; omega)⟩ dX7_read_25
  · skip
    have hcd : (z_rg ct) = (ct, -4) := by unfold z_rg; rw [if_pos (by omega)]
    refine z_bipush C (-4) dX7_read_7 (by decide) ?_
    exact z_irete C hQ (f, pf, kn) rfl ⟨by rw [hcd], by rw [hcd]; exact hrel, by rw [hcd]; exact (z_mh_err hmh hkp hod (by first | omega | (dsimp only; omega)))⟩ dX7_read_9
theorem zi_X7_latch_X7 : ∀ w ∈ u_ws RX7 TX7 7, w ∈ wsX7_latch := by decide +kernel
theorem zl_X7_latch_7 : Cond.fieldLink RX7 7 "RippleCountsModel" "s" "[I" ∈ wsX7_latch := by decide +kernel
theorem zd_X7_latch : yX7_latch.cls ≠ "java/lang/invoke/MethodHandle" ∧ yX7_latch.cls ≠ "java/lang/invoke/VarHandle" ∧ (parseMethodDescriptor yX7_latch.desc).map (fun d => d.parameters.length) = some 0 := by decide +kernel
set_option maxHeartbeats 4000000 in
set_option maxRecDepth 100000 in
theorem c_X7_latch (l : Launch) (D : va_G) (cI cZ cO : ClassId) (hM aS aPa aSl aSv aPd : Nat) (kn ln : Int) (f : Int → Int) (pf : Int → Int) (ct : z_Ct) (kp od : Int) (hr : Int → z_Ct) (hrel : z_rel ct 0 f) (hok : z_ok ct) (htt : ct.1.1 ≤ 9999) (hmh : z_mh kp od hr kn pf) (hkp : 0 ≤ kp ∧ kp ≤ 6) (hod : 0 ≤ od ∧ od < 7) (hhr : ∀ j : Int, 0 ≤ j → j < 7 → z_ok (hr j)) : z_Ei ((Int → Int) × (Int → Int) × Int) l yX7_latch wsX7_latch 2 40 D (z_T cI cZ cO) [.ref hM] ([(hM, .inr (7, [.ref aS, .ref aPa, .int (z_I kn), .ref aSl, .ref aSv, .ref aPd, .int (z_I ln)])), (aS, z_ai cI 712 f), (aPa, z_ai cI 2136 pf)]) (fun u => [(hM, .inr (7, [.ref aS, .ref aPa, .int (z_I u.2.2), .ref aSl, .ref aSv, .ref aPd, .int (z_I ln)])), (aS, z_ai cI 712 u.1), (aPa, z_ai cI 2136 u.2.1)]) (fun ri u => ri = (z_sl ct).2 ∧ z_rel (z_sl ct).1 0 u.1 ∧ z_mh (z_stK (z_sl ct).2 kp) (z_stO (z_sl ct).2 kp od) (z_uc hr ((od + kp) % 7) ct) u.2.2 u.2.1) := by
  refine z_Ei_of (cc := cX7_latch) (nL := 2) (ret := (some .int)) (by decide +kernel) rfl (Nat.le_of_ble_eq_true rfl) ?_
  intro p e s m args below meth c A Q C hQ
  change z_V p l e { frames := 2, cells := 0, slots := 0, locals := 40 } s m args below meth c D A 2 0 0 Q ([(hM, .inr (7, [.ref aS, .ref aPa, .int (z_I kn), .ref aSl, .ref aSv, .ref aPd, .int (z_I ln)])), (aS, z_ai cI 712 f), (aPa, z_ai cI 2136 pf)]) 0 [(0, .ref hM)] []
  obtain ⟨hw, hrd, hsg, hho, hck, hlc, hld, hlw, hrl0⟩ := id hok
  obtain ⟨ht0, hst, hsh, hdl, hdu, hdn, hB, htot, hbit, hzero, how⟩ := id hw
  obtain ⟨hrn, hrr, hla⟩ := id hrd
  obtain ⟨hsn, hrk, hfo, hcnt, hinj, hsur⟩ := id hsg
  have hp := z_p2_le (k := ct.1.2.1) (by omega)
  obtain ⟨y0, y1, y2, y3, y4, y5, y6, y7, y8⟩ := hrel.1
  simp only [Int.zero_add] at y1 y2 y3 y4 y5 y6 y7 y8
  have hkn := hmh.1
  refine z_aload_n C 0 dX7_latch_0 rfl ?_
  refine z_callVi C [0, 1] [(hM, .inr (7, [.ref aS, .ref aPa, .int (z_I kn), .ref aSl, .ref aSv, .ref aPd, .int (z_I ln)])), (aS, z_ai cI 712 f), (aPa, z_ai cI 2136 pf)] [] [] (c_X7_whyNotLatch l D cI cZ cO hM aS aPa aSl aSv aPd kn ln f ct (by first | assumption | omega) (by first | assumption | omega) (by first | assumption | omega)) gX7_latch_X7_whyNotLatch rfl zd_X7_whyNotLatch rfl (by decide) rfl rfl rfl (by decide) rfl rfl rfl (Nat.le_of_ble_eq_true rfl) (by decide) dX7_latch_1 ?_
  have hwd : ((if ct.2.2.2.2.2.2.2 = 1 then -5 else if 99 ≤ ct.2.1.1 + ct.2.2.2.2.2.2.2 then -4 else 0) = -5 ∧ ct.2.2.2.2.2.2.2 = 1) ∨ ((if ct.2.2.2.2.2.2.2 = 1 then -5 else if 99 ≤ ct.2.1.1 + ct.2.2.2.2.2.2.2 then -4 else 0) = -4 ∧ ¬ ct.2.2.2.2.2.2.2 = 1 ∧ 99 ≤ ct.2.1.1 + ct.2.2.2.2.2.2.2) ∨ ((if ct.2.2.2.2.2.2.2 = 1 then -5 else if 99 ≤ ct.2.1.1 + ct.2.2.2.2.2.2.2 then -4 else 0) = 0 ∧ ¬ ct.2.2.2.2.2.2.2 = 1 ∧ ¬ 99 ≤ ct.2.1.1 + ct.2.2.2.2.2.2.2) := by
    by_cases q : ct.2.2.2.2.2.2.2 = 1
    · rw [if_pos q]; exact Or.inl ⟨rfl, q⟩
    · by_cases q2 : 99 ≤ ct.2.1.1 + ct.2.2.2.2.2.2.2
      · rw [if_neg q, if_pos q2]; exact Or.inr (Or.inl ⟨rfl, q, q2⟩)
      · rw [if_neg q, if_neg q2]; exact Or.inr (Or.inr ⟨rfl, q, q2⟩)
  generalize hwq : (if ct.2.2.2.2.2.2.2 = 1 then -5 else if 99 ≤ ct.2.1.1 + ct.2.2.2.2.2.2.2 then -4 else 0) = wq at hwd ⊢
  refine z_istore_n C [(1, .int (z_I wq)), (0, .ref hM)] dX7_latch_4 (by decide) rfl ?_
  refine z_iload_n C 0 dX7_latch_5 rfl ?_
  refine z_if_ge C 11 dX7_latch_6 (by decide) (by omega) (fun hc1 => ?_) (fun hc1 => ?_)
  · skip
    have hcd : (z_sl ct) = ((ct.1, ct.2.1, ct.2.2.1, ct.2.2.2.1, ct.2.2.2.2.1, ct.2.2.2.2.2.1, ct.2.2.2.2.2.2.1, 1), 1) := by unfold z_sl; rw [if_neg (by omega), if_neg (by omega)]
    refine z_aload_n C 1 dX7_latch_11 rfl ?_
    refine z_callVv C [0, 1, 2] [(hM, .inr (7, [.ref aS, .ref aPa, .int (z_I (if kn = 6 then 6 else kn + 1)), .ref aSl, .ref aSv, .ref aPd, .int (z_I ln)])), (aS, z_ai cI 712 f), (aPa, z_ai cI 2136 (z_rem f pf kn))] [] [] (c_X7_remembers l D cI cZ cO hM aS aPa aSl aSv aPd kn ln f pf (by omega)) gX7_latch_X7_remembers rfl zd_X7_remembers rfl (by decide) rfl rfl rfl (by decide) rfl rfl rfl (Nat.le_of_ble_eq_true rfl) (by decide) dX7_latch_12 ?_
    refine z_aload_n C 1 dX7_latch_15 rfl ?_
    refine z_get C 0 0 zi_X7_latch_X7 rfl rfl (by decide) zl_X7_latch_7 rfl rfl dX7_latch_16 ?_
    refine z_bipush C 6 dX7_latch_19 (by decide) ?_
    refine z_iconst C 1 dX7_latch_21 ?_
    refine z_iast C 1 0 ([(hM, .inr (7, [.ref aS, .ref aPa, .int (z_I (if kn = 6 then 6 else kn + 1)), .ref aSl, .ref aSv, .ref aPd, .int (z_I ln)])), (aS, z_ai cI 712 (z_u f 6 1)), (aPa, z_ai cI 2136 (z_rem f pf kn))]) rfl rfl (by decide) (by omega) rfl dX7_latch_22 ?_
    refine z_iconst C 1 dX7_latch_23 ?_
    exact z_irete C hQ (z_u f 6 1, (z_rem f pf kn), (if kn = 6 then 6 else kn + 1)) rfl ⟨by rw [hcd], by rw [hcd, show (6 : Int) = 0 + 6 by omega]; exact z_rl_lw hrel hrn.1 hsn.1, by rw [hcd]; exact z_mh_rem hmh hkp hod hrel hok hhr (by dsimp only; omega)⟩ dX7_latch_24
  · skip
    refine z_iload_n C 0 dX7_latch_9 rfl ?_
    exact z_irete C hQ (f, pf, kn) rfl (by rcases hwd with h9 | h9 | h9; (· exact ⟨by rw [show (z_sl ct) = (ct, -5) from by unfold z_sl; rw [if_pos (by omega)]]; omega, by rw [show (z_sl ct) = (ct, -5) from by unfold z_sl; rw [if_pos (by omega)]]; exact hrel, by rw [show (z_sl ct) = (ct, -5) from by unfold z_sl; rw [if_pos (by omega)]]; exact (z_mh_err hmh hkp hod (by first | omega | (dsimp only; omega)))⟩); (· exact ⟨by rw [show (z_sl ct) = (ct, -4) from by unfold z_sl; rw [if_neg (by omega), if_pos (by omega)]]; omega, by rw [show (z_sl ct) = (ct, -4) from by unfold z_sl; rw [if_neg (by omega), if_pos (by omega)]]; exact hrel, by rw [show (z_sl ct) = (ct, -4) from by unfold z_sl; rw [if_neg (by omega), if_pos (by omega)]]; exact (z_mh_err hmh hkp hod (by first | omega | (dsimp only; omega)))⟩); (· omega)) dX7_latch_10
