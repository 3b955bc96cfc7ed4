theorem zi_X7_ticks_X7 : ∀ w ∈ u_ws RX7 TX7 7, w ∈ wsX7_ticks := by decide +kernel
theorem zl_X7_ticks_7 : Cond.fieldLink RX7 7 "RippleCountsModel" "s" "[I" ∈ wsX7_ticks := by decide +kernel
theorem zd_X7_ticks : yX7_ticks.cls ≠ "java/lang/invoke/MethodHandle" ∧ yX7_ticks.cls ≠ "java/lang/invoke/VarHandle" ∧ (parseMethodDescriptor yX7_ticks.desc).map (fun d => d.parameters.length) = some 0 := by decide +kernel
set_option maxHeartbeats 4000000 in
set_option maxRecDepth 100000 in
theorem c_X7_ticks (l : Launch) (D : va_G) (cI cZ cO : ClassId) (hM aS aPa aSl aSv aPd : Nat) (kn ln : Int) (f : Int → Int) (ct : z_Ct) (hrel : z_rel ct 0 f) (hok : z_ok ct) (htt : ct.1.1 ≤ 9999) : z_Ei (Int → Int) l yX7_ticks wsX7_ticks 4 93 D (z_T cI cZ cO) [.ref hM] ([(hM, .inr (7, [.ref aS, .ref aPa, .int (z_I kn), .ref aSl, .ref aSv, .ref aPd, .int (z_I ln)])), (aS, z_ai cI 712 f)]) (fun u => [(hM, .inr (7, [.ref aS, .ref aPa, .int (z_I kn), .ref aSl, .ref aSv, .ref aPd, .int (z_I ln)])), (aS, z_ai cI 712 u)]) (fun ri u => z_rel (z_cap ct).1 0 u ∧ (ri = 0 ↔ ¬ (z_cap ct).2 < 0) ∧ -10 ≤ ri ∧ ri ≤ 0) := by
  refine z_Ei_of (cc := cX7_ticks) (nL := 2) (ret := (some .int)) (by decide +kernel) rfl (Nat.le_of_ble_eq_true rfl) ?_
  intro p e s m args below meth c A Q C hQ
  change z_V p l e { frames := 4, cells := 0, slots := 0, locals := 93 } s m args below meth c D A 2 0 0 Q ([(hM, .inr (7, [.ref aS, .ref aPa, .int (z_I kn), .ref aSl, .ref aSv, .ref aPd, .int (z_I ln)])), (aS, z_ai cI 712 f)]) 0 [(0, .ref hM)] []
  obtain ⟨hw, hrd, hsg, hho, hck, hlc, hld, hlw, hrl0⟩ := id hok
  obtain ⟨ht0, hst, hsh, hdl, hdu, hdn, hB, htot, hbit, hzero, how⟩ := id hw
  obtain ⟨hrn, hrr, hla⟩ := id hrd
  obtain ⟨hsn, hrk, hfo, hcnt, hinj, hsur⟩ := id hsg
  have hp := z_p2_le (k := ct.1.2.1) (by omega)
  obtain ⟨y0, y1, y2, y3, y4, y5, y6, y7, y8⟩ := hrel.1
  simp only [Int.zero_add] at y1 y2 y3 y4 y5 y6 y7 y8
  refine z_aload_n C 0 dX7_ticks_0 rfl ?_
  refine z_get C 0 0 zi_X7_ticks_X7 rfl rfl (by decide) zl_X7_ticks_7 rfl rfl dX7_ticks_1 ?_
  refine z_iconst C 4 dX7_ticks_4 ?_
  refine z_iald C 1 0 rfl rfl (by decide) (by omega) dX7_ticks_5 ?_
  refine z_aload_n C 0 dX7_ticks_6 rfl ?_
  refine z_get C 0 0 zi_X7_ticks_X7 rfl rfl (by decide) zl_X7_ticks_7 rfl rfl dX7_ticks_7 ?_
  refine z_iconst C 2 dX7_ticks_10 ?_
  refine z_iald C 1 0 rfl rfl (by decide) (by omega) dX7_ticks_11 ?_
  refine z_icmp_eq C 23 dX7_ticks_12 (by decide) (by omega) (by omega) (fun hc1 => ?_) (fun hc1 => ?_)
  · skip
    have hcp : z_cap ct = (ct, -5) := if_pos (by omega)
    refine z_bipush C (-5) dX7_ticks_23 (by decide) ?_
    exact z_irete C hQ f rfl ⟨by rw [hcp]; exact hrel, by rw [hcp]; dsimp only; omega, by omega, by omega⟩ dX7_ticks_25
  · skip
    refine z_aload_n C 0 dX7_ticks_15 rfl ?_
    refine z_iconst C 1 dX7_ticks_16 ?_
    refine z_callVi C [0, 1] [(hM, .inr (7, [.ref aS, .ref aPa, .int (z_I kn), .ref aSl, .ref aSv, .ref aPd, .int (z_I ln)])), (aS, z_ai cI 712 f)] [.int (z_I 1)] [] (c_X7_whyNotPass l D cI cZ cO hM aS aPa aSl aSv aPd kn ln f ct 1 (by first | assumption | omega) (by first | assumption | omega) (by first | assumption | omega) (by first | assumption | omega)) gX7_ticks_X7_whyNotPass rfl zd_X7_whyNotPass rfl (by decide) rfl rfl rfl (by decide) rfl rfl rfl (Nat.le_of_ble_eq_true rfl) (by decide) dX7_ticks_17 ?_
    refine z_if_ge C 26 dX7_ticks_20 (by decide) (by omega) (fun hc2 => ?_) (fun hc2 => ?_)
    · skip
      have hck9 := z_rel_ck hrel hok
      have hE : ¬ ct.2.2.2.2.2.1 = ct.1.1 := by omega
      have hT : ¬ 9999 ≤ ct.1.1 := by omega
      have hto := z_ok_take hok hE
      have hcp : z_cap ct = (z_nano (z_take ct), (z_tdR (z_take ct)).1) := if_neg (by omega)
      have hwt := hto.1
      have hTI := (z_td_I hwt (z_take ct).1.2.1 (by have := hwt.2.1; omega) (by omega)).1.1
      refine z_aload_n C 0 dX7_ticks_26 rfl ?_
      refine z_iconst C 0 dX7_ticks_27 ?_
      refine z_callVv C [0, 1] [(hM, .inr (7, [.ref aS, .ref aPa, .int (z_I kn), .ref aSl, .ref aSv, .ref aPd, .int (z_I ln)])), (aS, z_ai cI 712 (z_ck 0 f))] [.int (z_I 0)] [] (c_X7_clocks l D cI cZ cO hM aS aPa aSl aSv aPd kn ln f 0 (by first | assumption | omega) (by rw [y0]; omega) (by have h9 := (hrel.2.1 0 (by omega) (by omega)).1; have h8 := hdl 0 (by omega) (by omega); rw [show (0 : Int) + 9 = 0 + 9 + 0 by omega, h9]; omega) (by rw [Int.zero_add, y3]; omega)) gX7_ticks_X7_clocks rfl zd_X7_clocks rfl (by decide) rfl rfl rfl (by decide) rfl rfl rfl (Nat.le_of_ble_eq_true rfl) (by decide) dX7_ticks_28 ?_
      refine z_aload_n C 0 dX7_ticks_31 rfl ?_
      refine z_iconst C 0 dX7_ticks_32 ?_
      refine z_callEi C [0, 1] (fun u2 => [(hM, .inr (7, [.ref aS, .ref aPa, .int (z_I kn), .ref aSl, .ref aSv, .ref aPd, .int (z_I ln)])), (aS, z_ai cI 712 u2)]) [.int (z_I 0)] [] (c_X7_passesOne l D cI cZ cO hM aS aPa aSl aSv aPd kn ln (z_ck 0 f) 0 (z_take ct) (by first | assumption | omega) hck9.1 hto (by show ct.1.1 < 900000; omega)) gX7_ticks_X7_passesOne rfl zd_X7_passesOne rfl (by decide) rfl rfl rfl (by decide) (fun _ => rfl) (fun _ => rfl) rfl (Nat.le_of_ble_eq_true rfl) (by decide) dX7_ticks_33 (fun u2 ri2 hp2 => ?_)
      refine z_istore_n C [(1, .int (z_I ri2)), (0, .ref hM)] dX7_ticks_36 (by decide) rfl ?_
      refine z_iconst C 0 dX7_ticks_37 ?_
      exact z_irete C hQ u2 rfl ⟨by rw [hcp]; exact hp2.2.1, by rw [hcp]; dsimp only; unfold z_tdR; constructor; (· intro _; omega); (· intro _; rfl), by omega, by omega⟩ dX7_ticks_38
    · skip
      have hcp : z_cap ct = (ct, -5) := if_pos (by omega)
      refine z_bipush C (-5) dX7_ticks_23 (by decide) ?_
      exact z_irete C hQ f rfl ⟨by rw [hcp]; exact hrel, by rw [hcp]; dsimp only; omega, by omega, by omega⟩ dX7_ticks_25
theorem zi_X7_carries_X7 : ∀ w ∈ u_ws RX7 TX7 7, w ∈ wsX7_carries := by decide +kernel
theorem zl_X7_carries_7 : Cond.fieldLink RX7 7 "RippleCountsModel" "s" "[I" ∈ wsX7_carries := by decide +kernel
theorem zd_X7_carries : yX7_carries.cls ≠ "java/lang/invoke/MethodHandle" ∧ yX7_carries.cls ≠ "java/lang/invoke/VarHandle" ∧ (parseMethodDescriptor yX7_carries.desc).map (fun d => d.parameters.length) = some 1 := by decide +kernel
set_option maxHeartbeats 4000000 in
set_option maxRecDepth 100000 in
theorem c_X7_carries (l : Launch) (D : va_G) (cI cZ cO : ClassId) (hM aS aPa aSl aSv aPd : Nat) (kn ln : Int) (f sg pd : Int → Int) (ct : z_Ct) (k : Int) (hrel : z_rel ct 0 f) (hok : z_ok ct) (htt : ct.1.1 ≤ 9999) (hln : 0 ≤ ln ∧ ln ≤ 80) (hsgn : ∀ i : Int, 0 ≤ i → i < ln → 0 ≤ sg i ∧ sg i < 256) (hpr : z_pr ln sg pd) (hk : 0 ≤ k ∧ k < 700) (hst9 : z_st ln sg k) (hnr : ¬ (z_mg ln sg k = 99 ∧ 0 ≤ z_dg ln sg (k + 1))) : z_Ei (Int → Int) l yX7_carries wsX7_carries 5 117 D (z_T cI cZ cO) [.ref hM, .int (z_I k)] ([(hM, .inr (7, [.ref aS, .ref aPa, .int (z_I kn), .ref aSl, .ref aSv, .ref aPd, .int (z_I ln)])), (aS, z_ai cI 712 f), (aPd, z_ai cI 80 pd)]) (fun u => [(hM, .inr (7, [.ref aS, .ref aPa, .int (z_I kn), .ref aSl, .ref aSv, .ref aPd, .int (z_I ln)])), (aS, z_ai cI 712 u), (aPd, z_ai cI 80 pd)]) (fun ri u => z_rel (z_c1 ln sg ct k).1 0 u ∧ (ri = 0 ↔ ¬ (z_c1 ln sg ct k).2 < 0) ∧ -10 ≤ ri ∧ ri ≤ 0) := by
  refine z_Ei_of (cc := cX7_carries) (nL := 4) (ret := (some .int)) (by decide +kernel) rfl (Nat.le_of_ble_eq_true rfl) ?_
  intro p e s m args below meth c A Q C hQ
  change z_V p l e { frames := 5, cells := 0, slots := 0, locals := 117 } s m args below meth c D A 4 0 0 Q ([(hM, .inr (7, [.ref aS, .ref aPa, .int (z_I kn), .ref aSl, .ref aSv, .ref aPd, .int (z_I ln)])), (aS, z_ai cI 712 f), (aPd, z_ai cI 80 pd)]) 0 [(0, .ref hM), (1, .int (z_I k))] []
  obtain ⟨hw, hrd, hsg, hho, hck, hlc, hld, hlw, hrl0⟩ := id hok
  obtain ⟨ht0, hst, hsh, hdl, hdu, hdn, hB, htot, hbit, hzero, how⟩ := id hw
  obtain ⟨hrn, hrr, hla⟩ := id hrd
  obtain ⟨hsn, hrk, hfo, hcnt, hinj, hsur⟩ := id hsg
  have hp := z_p2_le (k := ct.1.2.1) (by omega)
  obtain ⟨y0, y1, y2, y3, y4, y5, y6, y7, y8⟩ := hrel.1
  simp only [Int.zero_add] at y1 y2 y3 y4 y5 y6 y7 y8
  obtain ⟨hlt, hsm, hkd, hnc, hnt, hnd⟩ := z_st_kind hk.1 hst9
  have hmg := z_mg_rng hsgn hk.1
  have hn1 := z_nm_rng hsgn (k + 1)
  have hn3 := z_nm_rng hsgn (k + 3)
  have hd1 := z_dg_rng ln sg (k + 1)
  refine z_iconst C 0 dX7_carries_0 ?_
  refine z_istore_n C [(2, .int (z_I 0)), (0, .ref hM), (1, .int (z_I k))] dX7_carries_1 (by decide) rfl ?_
  refine z_iconst C 0 dX7_carries_2 ?_
  refine z_istore_n C [(3, .int (z_I 0)), (2, .int (z_I 0)), (0, .ref hM), (1, .int (z_I k))] dX7_carries_3 (by decide) rfl ?_
  refine z_aload_n C 2 dX7_carries_4 rfl ?_
  refine z_iload_n C 3 dX7_carries_5 rfl ?_
  refine z_callVi C [0, 2] [(hM, .inr (7, [.ref aS, .ref aPa, .int (z_I kn), .ref aSl, .ref aSv, .ref aPd, .int (z_I ln)])), (aS, z_ai cI 712 f), (aPd, z_ai cI 80 pd)] [.int (z_I k)] [] (c_X7_sign l D cI cZ cO hM aS aPa aSl aSv aPd kn ln sg pd k (by first | assumption | omega) (by first | assumption | omega) (by first | assumption | omega) (by first | assumption | omega)) gX7_carries_X7_sign rfl zd_X7_sign rfl (by decide) rfl rfl rfl (by decide) rfl rfl rfl (Nat.le_of_ble_eq_true rfl) (by decide) dX7_carries_6 ?_
  by_cases hc1 : (z_mg ln sg k) = 99
  · skip
    refine z_look C 52 dX7_carries_9 (by decide +kernel) (by omega) (by rw [hc1]) (by decide) ?_
    have hres := z_c1_c (ct := ct) hk.1 (show z_sg ln sg k = 99 by omega) (by omega)
    have htA := z_tcA_rng hok
    refine z_aload_n C 2 dX7_carries_52 rfl ?_
    refine z_callEi C [0, 1] (fun u1 => [(hM, .inr (7, [.ref aS, .ref aPa, .int (z_I kn), .ref aSl, .ref aSv, .ref aPd, .int (z_I ln)])), (aS, z_ai cI 712 u1), (aPd, z_ai cI 80 pd)]) [] [] (c_X7_clockNow l D cI cZ cO hM aS aPa aSl aSv aPd kn ln f ct (by first | assumption | omega) (by first | assumption | omega) (by first | assumption | omega)) gX7_carries_X7_clockNow rfl zd_X7_clockNow rfl (by decide) rfl rfl rfl (by decide) (fun _ => rfl) (fun _ => rfl) rfl (Nat.le_of_ble_eq_true rfl) (by decide) dX7_carries_53 (fun u1 ri1 hp1 => ?_)
    have h9 := hp1.1
    refine z_istore_n C [(3, .int (z_I ri1)), (2, .int (z_I 0)), (0, .ref hM), (1, .int (z_I k))] dX7_carries_56 (by decide) rfl ?_
    refine z_iload_n C 0 dX7_carries_57 rfl ?_
    refine z_if_ge C 65 dX7_carries_58 (by decide) (by omega) (fun hc2 => ?_) (fun hc2 => ?_)
    · skip
      refine z_iconst C 0 dX7_carries_65 ?_
      exact z_irete C hQ u1 rfl ⟨by rw [hres]; exact hp1.2.1, by rw [hres]; (try dsimp only); omega, by omega, by omega⟩ dX7_carries_66
    · skip
      refine z_iload_n C 0 dX7_carries_61 rfl ?_
      refine z_goto C 66 dX7_carries_62 (by decide) ?_
      exact z_irete C hQ u1 rfl ⟨by rw [hres]; exact hp1.2.1, by rw [hres]; (try dsimp only); omega, by omega, by omega⟩ dX7_carries_66
  by_cases hc3 : (z_mg ln sg k) = 100
  · skip
    refine z_look C 102 dX7_carries_9 (by decide +kernel) (by omega) (by rw [hc3]) (by decide) ?_
    have hc1 := z_c1_d (ct := ct) (show z_sg ln sg k = 100 by omega)
    obtain ⟨hnm, hdp, hds⟩ := hnd (by omega)
    rw [← hds] at hc1
    refine z_aload_n C 2 dX7_carries_102 rfl ?_
    refine z_aload_n C 2 dX7_carries_103 rfl ?_
    refine z_iload_n C 3 dX7_carries_104 rfl ?_
    refine z_iconst C 1 dX7_carries_105 ?_
    refine z_iadd C dX7_carries_106 ?_
    refine z_callVi C [0, 2] [(hM, .inr (7, [.ref aS, .ref aPa, .int (z_I kn), .ref aSl, .ref aSv, .ref aPd, .int (z_I ln)])), (aS, z_ai cI 712 f), (aPd, z_ai cI 80 pd)] [.int (z_I (k + 1))] [.ref hM] (c_X7_digit l D cI cZ cO hM aS aPa aSl aSv aPd kn ln sg pd (k + 1) (by first | assumption | omega) (by first | assumption | omega) (by first | assumption | omega) (by first | assumption | omega)) gX7_carries_X7_digit rfl zd_X7_digit rfl (by decide) rfl rfl rfl (by decide) rfl rfl rfl (Nat.le_of_ble_eq_true rfl) (by decide) dX7_carries_107 ?_
    refine z_aload_n C 2 dX7_carries_110 rfl ?_
    refine z_iload_n C 3 dX7_carries_111 rfl ?_
    refine z_iconst C 3 dX7_carries_112 ?_
    refine z_iadd C dX7_carries_113 ?_
    refine z_callVi C [0, 2] [(hM, .inr (7, [.ref aS, .ref aPa, .int (z_I kn), .ref aSl, .ref aSv, .ref aPd, .int (z_I ln)])), (aS, z_ai cI 712 f), (aPd, z_ai cI 80 pd)] [.int (z_I (k + 3))] [.int (z_I (z_dg ln sg (k + 1))), .ref hM] (c_X7_numberAt l D cI cZ cO hM aS aPa aSl aSv aPd kn ln sg pd (k + 3) (by first | assumption | omega) (by first | assumption | omega) (by first | assumption | omega) (by first | assumption | omega)) gX7_carries_X7_numberAt rfl zd_X7_numberAt rfl (by decide) rfl rfl rfl (by decide) rfl rfl rfl (Nat.le_of_ble_eq_true rfl) (by decide) dX7_carries_114 ?_
    rw [hnm]
    refine z_callVi C [0, 1] [(hM, .inr (7, [.ref aS, .ref aPa, .int (z_I kn), .ref aSl, .ref aSv, .ref aPd, .int (z_I ln)])), (aS, z_ai cI 712 f), (aPd, z_ai cI 80 pd)] [.int (z_I (z_dg ln sg (k + 1))), .int (z_I (z_nm ln sg (k + 3)))] [] (c_X7_whyNotDelay l D cI cZ cO hM aS aPa aSl aSv aPd kn ln f ct (z_dg ln sg (k + 1)) (z_nm ln sg (k + 3)) (by first | assumption | omega) (by first | assumption | omega) (by first | assumption | omega) (by first | assumption | omega) (by first | assumption | omega)) gX7_carries_X7_whyNotDelay rfl zd_X7_whyNotDelay rfl (by decide) rfl rfl rfl (by decide) rfl rfl rfl (Nat.le_of_ble_eq_true rfl) (by decide) dX7_carries_117 ?_
    have hwd : ((if 0 ≤ z_dg ln sg (k + 1) ∧ z_dg ln sg (k + 1) < ct.1.2.1 then (if 1 ≤ z_nm ln sg (k + 3) ∧ z_nm ln sg (k + 3) ≤ 20 then 0 else -2) else -1) = 0 ∧ (0 ≤ z_dg ln sg (k + 1) ∧ z_dg ln sg (k + 1) < ct.1.2.1) ∧ (1 ≤ z_nm ln sg (k + 3) ∧ z_nm ln sg (k + 3) ≤ 20)) ∨ ((if 0 ≤ z_dg ln sg (k + 1) ∧ z_dg ln sg (k + 1) < ct.1.2.1 then (if 1 ≤ z_nm ln sg (k + 3) ∧ z_nm ln sg (k + 3) ≤ 20 then 0 else -2) else -1) = -2 ∧ (0 ≤ z_dg ln sg (k + 1) ∧ z_dg ln sg (k + 1) < ct.1.2.1) ∧ ¬ (1 ≤ z_nm ln sg (k + 3) ∧ z_nm ln sg (k + 3) ≤ 20)) ∨ ((if 0 ≤ z_dg ln sg (k + 1) ∧ z_dg ln sg (k + 1) < ct.1.2.1 then (if 1 ≤ z_nm ln sg (k + 3) ∧ z_nm ln sg (k + 3) ≤ 20 then 0 else -2) else -1) = -1 ∧ ¬ (0 ≤ z_dg ln sg (k + 1) ∧ z_dg ln sg (k + 1) < ct.1.2.1)) := by
      by_cases q : 0 ≤ z_dg ln sg (k + 1) ∧ z_dg ln sg (k + 1) < ct.1.2.1
      · by_cases q2 : 1 ≤ z_nm ln sg (k + 3) ∧ z_nm ln sg (k + 3) ≤ 20
        · rw [if_pos q, if_pos q2]; exact Or.inl ⟨rfl, q, q2⟩
        · rw [if_pos q, if_neg q2]; exact Or.inr (Or.inl ⟨rfl, q, q2⟩)
      · rw [if_neg q]; exact Or.inr (Or.inr ⟨rfl, q⟩)
    generalize hwq : (if 0 ≤ z_dg ln sg (k + 1) ∧ z_dg ln sg (k + 1) < ct.1.2.1 then (if 1 ≤ z_nm ln sg (k + 3) ∧ z_nm ln sg (k + 3) ≤ 20 then 0 else -2) else -1) = wq at hwd ⊢
    refine z_istore_n C [(2, .int (z_I wq)), (3, .int (z_I 0)), (0, .ref hM), (1, .int (z_I k))] dX7_carries_120 (by decide) rfl ?_
    refine z_iload_n C 0 dX7_carries_121 rfl ?_
    refine z_if_ne C 147 dX7_carries_122 (by decide) (by omega) (fun hc4 => ?_) (fun hc4 => ?_)
    · skip
      have hres : (z_c1 ln sg ct k) = (ct, wq) := by rw [hc1]; unfold z_cd; rcases hwd with h9 | h9 | h9; (· omega); (· rw [if_pos h9.2.1, if_neg h9.2.2, h9.1]); (· rw [if_neg h9.2, h9.1])
      refine z_iload_n C 0 dX7_carries_147 rfl ?_
      exact z_irete C hQ f rfl (by first | exact ⟨by rw [hres]; exact hrel, by rw [hres]; (try dsimp only); omega, by omega, by omega⟩ | exact ⟨by rw [hres, show 9 + z_dg ln sg (k + 1) = 0 + 9 + z_dg ln sg (k + 1) by omega]; exact z_rl_dly hrel (by omega) hrn.1 hsn.1, by rw [hres]; (try dsimp only); omega, by omega, by omega⟩) dX7_carries_148
    · skip
      have hin : (0 ≤ z_dg ln sg (k + 1) ∧ z_dg ln sg (k + 1) < ct.1.2.1) ∧ (1 ≤ z_nm ln sg (k + 3) ∧ z_nm ln sg (k + 3) ≤ 20) := by omega
      have hres : (z_c1 ln sg ct k) = (((ct.1.1, ct.1.2.1, ct.1.2.2.1, ct.1.2.2.2.1, z_u ct.1.2.2.2.2.1 (z_dg ln sg (k + 1)) (z_nm ln sg (k + 3)), ct.1.2.2.2.2.2.1, ct.1.2.2.2.2.2.2), ct.2.1, ct.2.2.1, ct.2.2.2.1, ct.2.2.2.2.1, ct.2.2.2.2.2.1, ct.2.2.2.2.2.2.1, ct.2.2.2.2.2.2.2), ct.1.2.2.2.2.1 (z_dg ln sg (k + 1))) := by rw [hc1]; unfold z_cd; rw [if_pos hin.1, if_pos hin.2]
      have hd9 := hdl (z_dg ln sg (k + 1)) (by omega) (by omega)
      refine z_aload_n C 2 dX7_carries_125 rfl ?_
      refine z_get C 0 0 zi_X7_carries_X7 rfl rfl (by decide) zl_X7_carries_7 rfl rfl dX7_carries_126 ?_
      refine z_bipush C 9 dX7_carries_129 (by decide) ?_
      refine z_aload_n C 2 dX7_carries_131 rfl ?_
      refine z_iload_n C 3 dX7_carries_132 rfl ?_
      refine z_iconst C 1 dX7_carries_133 ?_
      refine z_iadd C dX7_carries_134 ?_
      refine z_callVi C [0, 2] [(hM, .inr (7, [.ref aS, .ref aPa, .int (z_I kn), .ref aSl, .ref aSv, .ref aPd, .int (z_I ln)])), (aS, z_ai cI 712 f), (aPd, z_ai cI 80 pd)] [.int (z_I (k + 1))] [.int (z_I 9), .ref aS] (c_X7_digit l D cI cZ cO hM aS aPa aSl aSv aPd kn ln sg pd (k + 1) (by first | assumption | omega) (by first | assumption | omega) (by first | assumption | omega) (by first | assumption | omega)) gX7_carries_X7_digit rfl zd_X7_digit rfl (by decide) rfl rfl rfl (by decide) rfl rfl rfl (Nat.le_of_ble_eq_true rfl) (by decide) dX7_carries_135 ?_
      refine z_iadd C dX7_carries_138 ?_
      refine z_aload_n C 2 dX7_carries_139 rfl ?_
      refine z_iload_n C 3 dX7_carries_140 rfl ?_
      refine z_iconst C 3 dX7_carries_141 ?_
      refine z_iadd C dX7_carries_142 ?_
      refine z_callVi C [0, 2] [(hM, .inr (7, [.ref aS, .ref aPa, .int (z_I kn), .ref aSl, .ref aSv, .ref aPd, .int (z_I ln)])), (aS, z_ai cI 712 f), (aPd, z_ai cI 80 pd)] [.int (z_I (k + 3))] [.int (z_I (9 + (z_dg ln sg (k + 1)))), .ref aS] (c_X7_numberAt l D cI cZ cO hM aS aPa aSl aSv aPd kn ln sg pd (k + 3) (by first | assumption | omega) (by first | assumption | omega) (by first | assumption | omega) (by first | assumption | omega)) gX7_carries_X7_numberAt rfl zd_X7_numberAt rfl (by decide) rfl rfl rfl (by decide) rfl rfl rfl (Nat.le_of_ble_eq_true rfl) (by decide) dX7_carries_143 ?_
      rw [hnm]
      refine z_iast C 1 0 ([(hM, .inr (7, [.ref aS, .ref aPa, .int (z_I kn), .ref aSl, .ref aSv, .ref aPd, .int (z_I ln)])), (aS, z_ai cI 712 (z_u f (9 + (z_dg ln sg (k + 1))) (z_nm ln sg (k + 3)))), (aPd, z_ai cI 80 pd)]) rfl rfl (by decide) (by omega) rfl dX7_carries_146 ?_
      refine z_iload_n C 0 dX7_carries_147 rfl ?_
      exact z_irete C hQ (z_u f (9 + (z_dg ln sg (k + 1))) (z_nm ln sg (k + 3))) rfl (by first | exact ⟨by rw [hres]; exact hrel, by rw [hres]; (try dsimp only); omega, by omega, by omega⟩ | exact ⟨by rw [hres, show 9 + z_dg ln sg (k + 1) = 0 + 9 + z_dg ln sg (k + 1) by omega]; exact z_rl_dly hrel (by omega) hrn.1 hsn.1, by rw [hres]; (try dsimp only); omega, by omega, by omega⟩) dX7_carries_148
  by_cases hc5 : (z_mg ln sg k) = 114
  · skip
    refine z_look C 149 dX7_carries_9 (by decide +kernel) (by omega) (by rw [hc5]) (by decide) ?_
    have hc1 := z_c1_r (ct := ct) (show z_sg ln sg k = 114 by omega)
    refine z_aload_n C 2 dX7_carries_149 rfl ?_
    refine z_callVi C [0, 1] [(hM, .inr (7, [.ref aS, .ref aPa, .int (z_I kn), .ref aSl, .ref aSv, .ref aPd, .int (z_I ln)])), (aS, z_ai cI 712 f), (aPd, z_ai cI 80 pd)] [] [] (c_X7_whyNotRead l D cI cZ cO hM aS aPa aSl aSv aPd kn ln f ct (by first | assumption | omega) (by first | assumption | omega) (by first | assumption | omega)) gX7_carries_X7_whyNotRead rfl zd_X7_whyNotRead rfl (by decide) rfl rfl rfl (by decide) rfl rfl rfl (Nat.le_of_ble_eq_true rfl) (by decide) dX7_carries_150 ?_
    have hwd : ((if 99 ≤ ct.2.1.1 + ct.2.2.2.2.2.2.2 then -4 else 0) = -4 ∧ 99 ≤ ct.2.1.1 + ct.2.2.2.2.2.2.2) ∨ ((if 99 ≤ ct.2.1.1 + ct.2.2.2.2.2.2.2 then -4 else 0) = 0 ∧ ¬ 99 ≤ ct.2.1.1 + ct.2.2.2.2.2.2.2) := by
      by_cases q : 99 ≤ ct.2.1.1 + ct.2.2.2.2.2.2.2
      · rw [if_pos q]; exact Or.inl ⟨rfl, q⟩
      · rw [if_neg q]; exact Or.inr ⟨rfl, q⟩
    generalize hwq : (if 99 ≤ ct.2.1.1 + ct.2.2.2.2.2.2.2 then -4 else 0) = wq at hwd ⊢
    refine z_istore_n C [(2, .int (z_I wq)), (3, .int (z_I 0)), (0, .ref hM), (1, .int (z_I k))] dX7_carries_153 (by decide) rfl ?_
    refine z_iload_n C 0 dX7_carries_154 rfl ?_
    refine z_if_ne C 164 dX7_carries_155 (by decide) (by omega) (fun hc6 => ?_) (fun hc6 => ?_)
    · skip
      have hres : (z_c1 ln sg ct k) = (ct, -4) := by rw [hc1]; unfold z_rg; rw [if_pos (by omega)]
      refine z_iload_n C 0 dX7_carries_164 rfl ?_
      exact z_irete C hQ f rfl (by first | exact ⟨by rw [hres]; exact hp1.1, by rw [hres]; (try dsimp only); omega, by omega, by omega⟩ | exact ⟨by rw [hres]; exact hrel, by rw [hres]; (try dsimp only); omega, by omega, by omega⟩) dX7_carries_165
    · skip
      have hres : (z_c1 ln sg ct k) = ((ct.1, (z_rad ct.2.1 ct.1.2.2.1 ct.1.1 ct.2.2.2.2.1 0), ct.2.2.1, ct.2.2.2.1, ct.2.2.2.2.1, ct.2.2.2.2.2.1, ct.2.2.2.2.2.2.1, ct.2.2.2.2.2.2.2), ct.1.2.2.1) := by rw [hc1]; unfold z_rg; rw [if_neg (by omega)]
      refine z_aload_n C 2 dX7_carries_158 rfl ?_
      refine z_iconst C 0 dX7_carries_159 ?_
      refine z_iconst C 0 dX7_carries_160 ?_
      refine z_callEv C [0, 1] (fun u1 => [(hM, .inr (7, [.ref aS, .ref aPa, .int (z_I kn), .ref aSl, .ref aSv, .ref aPd, .int (z_I ln)])), (aS, z_ai cI 712 u1), (aPd, z_ai cI 80 pd)]) [.int (z_I 0), .int (z_I 0)] [] (c_X7_reads l D cI cZ cO hM aS aPa aSl aSv aPd kn ln f 0 ct (fun _ _ => True) (fun k i => ct.1.2.2.2.2.2.2 (k * 21 + (ct.1.1 + i) % 21)) 0 (by first | assumption | omega) hrel (by first | assumption | omega) (by first | assumption | omega) (by omega)) gX7_carries_X7_reads rfl zd_X7_reads rfl (by decide) rfl rfl rfl (by decide) (fun _ => rfl) (fun _ => rfl) rfl (Nat.le_of_ble_eq_true rfl) (by decide) dX7_carries_161 (fun u1 hp1 => ?_)
      refine z_iload_n C 0 dX7_carries_164 rfl ?_
      exact z_irete C hQ u1 rfl (by first | exact ⟨by rw [hres]; exact hp1.1, by rw [hres]; (try dsimp only); omega, by omega, by omega⟩ | exact ⟨by rw [hres]; exact hrel, by rw [hres]; (try dsimp only); omega, by omega, by omega⟩) dX7_carries_165
  by_cases hc7 : (z_mg ln sg k) = 116
  · skip
    refine z_look C 67 dX7_carries_9 (by decide +kernel) (by omega) (by rw [hc7]) (by decide) ?_
    have hc1 := z_c1_t (ct := ct) (show z_sg ln sg k = 116 by omega)
    have hnm := hnt (by omega)
    refine z_aload_n C 2 dX7_carries_67 rfl ?_
    refine z_aload_n C 2 dX7_carries_68 rfl ?_
    refine z_iload_n C 3 dX7_carries_69 rfl ?_
    refine z_iconst C 1 dX7_carries_70 ?_
    refine z_iadd C dX7_carries_71 ?_
    refine z_callVi C [0, 2] [(hM, .inr (7, [.ref aS, .ref aPa, .int (z_I kn), .ref aSl, .ref aSv, .ref aPd, .int (z_I ln)])), (aS, z_ai cI 712 f), (aPd, z_ai cI 80 pd)] [.int (z_I (k + 1))] [.ref hM] (c_X7_numberAt l D cI cZ cO hM aS aPa aSl aSv aPd kn ln sg pd (k + 1) (by first | assumption | omega) (by first | assumption | omega) (by first | assumption | omega) (by first | assumption | omega)) gX7_carries_X7_numberAt rfl zd_X7_numberAt rfl (by decide) rfl rfl rfl (by decide) rfl rfl rfl (Nat.le_of_ble_eq_true rfl) (by decide) dX7_carries_72 ?_
    rw [hnm]
    refine z_callVi C [0, 1] [(hM, .inr (7, [.ref aS, .ref aPa, .int (z_I kn), .ref aSl, .ref aSv, .ref aPd, .int (z_I ln)])), (aS, z_ai cI 712 f), (aPd, z_ai cI 80 pd)] [.int (z_I (z_nm ln sg (k + 1)))] [] (c_X7_whyNotPass l D cI cZ cO hM aS aPa aSl aSv aPd kn ln f ct (z_nm ln sg (k + 1)) (by first | assumption | omega) (by first | assumption | omega) (by first | assumption | omega) (by first | assumption | omega)) gX7_carries_X7_whyNotPass rfl zd_X7_whyNotPass rfl (by decide) rfl rfl rfl (by decide) rfl rfl rfl (Nat.le_of_ble_eq_true rfl) (by decide) dX7_carries_75 ?_
    have hwd : ((if 1 ≤ z_nm ln sg (k + 1) ∧ z_nm ln sg (k + 1) ≤ 99 then (if ct.1.1 + z_nm ln sg (k + 1) ≤ 9999 then 0 else -5) else -2) = 0 ∧ (1 ≤ z_nm ln sg (k + 1) ∧ z_nm ln sg (k + 1) ≤ 99) ∧ (ct.1.1 + z_nm ln sg (k + 1) ≤ 9999)) ∨ ((if 1 ≤ z_nm ln sg (k + 1) ∧ z_nm ln sg (k + 1) ≤ 99 then (if ct.1.1 + z_nm ln sg (k + 1) ≤ 9999 then 0 else -5) else -2) = -5 ∧ (1 ≤ z_nm ln sg (k + 1) ∧ z_nm ln sg (k + 1) ≤ 99) ∧ ¬ (ct.1.1 + z_nm ln sg (k + 1) ≤ 9999)) ∨ ((if 1 ≤ z_nm ln sg (k + 1) ∧ z_nm ln sg (k + 1) ≤ 99 then (if ct.1.1 + z_nm ln sg (k + 1) ≤ 9999 then 0 else -5) else -2) = -2 ∧ ¬ (1 ≤ z_nm ln sg (k + 1) ∧ z_nm ln sg (k + 1) ≤ 99)) := by
      by_cases q : 1 ≤ z_nm ln sg (k + 1) ∧ z_nm ln sg (k + 1) ≤ 99
      · by_cases q2 : ct.1.1 + z_nm ln sg (k + 1) ≤ 9999
        · rw [if_pos q, if_pos q2]; exact Or.inl ⟨rfl, q, q2⟩
        · rw [if_pos q, if_neg q2]; exact Or.inr (Or.inl ⟨rfl, q, q2⟩)
      · rw [if_neg q]; exact Or.inr (Or.inr ⟨rfl, q⟩)
    generalize hwq : (if 1 ≤ z_nm ln sg (k + 1) ∧ z_nm ln sg (k + 1) ≤ 99 then (if ct.1.1 + z_nm ln sg (k + 1) ≤ 9999 then 0 else -5) else -2) = wq at hwd ⊢
    refine z_istore_n C [(2, .int (z_I wq)), (3, .int (z_I 0)), (0, .ref hM), (1, .int (z_I k))] dX7_carries_78 (by decide) rfl ?_
    refine z_iload_n C 0 dX7_carries_79 rfl ?_
    refine z_if_ge C 87 dX7_carries_80 (by decide) (by omega) (fun hc8 => ?_) (fun hc8 => ?_)
    · skip
      have hin : (1 ≤ z_nm ln sg (k + 1) ∧ z_nm ln sg (k + 1) ≤ 99) ∧ (ct.1.1 + z_nm ln sg (k + 1) ≤ 9999) := by omega
      have hres : (z_c1 ln sg ct k) = z_ps ct (z_nm ln sg (k + 1)).toNat := by rw [hc1]; unfold z_lp; rw [if_pos hin.1, if_pos hin.2]
      have hps := z_ps_aux hok (z_nm ln sg (k + 1)).toNat
      refine z_aload_n C 2 dX7_carries_87 rfl ?_
      refine z_iconst C 0 dX7_carries_88 ?_
      refine z_aload_n C 2 dX7_carries_89 rfl ?_
      refine z_iload_n C 3 dX7_carries_90 rfl ?_
      refine z_iconst C 1 dX7_carries_91 ?_
      refine z_iadd C dX7_carries_92 ?_
      refine z_callVi C [0, 2] [(hM, .inr (7, [.ref aS, .ref aPa, .int (z_I kn), .ref aSl, .ref aSv, .ref aPd, .int (z_I ln)])), (aS, z_ai cI 712 f), (aPd, z_ai cI 80 pd)] [.int (z_I (k + 1))] [.int (z_I 0), .ref hM] (c_X7_numberAt l D cI cZ cO hM aS aPa aSl aSv aPd kn ln sg pd (k + 1) (by first | assumption | omega) (by first | assumption | omega) (by first | assumption | omega) (by first | assumption | omega)) gX7_carries_X7_numberAt rfl zd_X7_numberAt rfl (by decide) rfl rfl rfl (by decide) rfl rfl rfl (Nat.le_of_ble_eq_true rfl) (by decide) dX7_carries_93 ?_
      rw [hnm]
      refine z_callEi C [0, 1] (fun u1 => [(hM, .inr (7, [.ref aS, .ref aPa, .int (z_I kn), .ref aSl, .ref aSv, .ref aPd, .int (z_I ln)])), (aS, z_ai cI 712 u1), (aPd, z_ai cI 80 pd)]) [.int (z_I 0), .int (z_I (z_nm ln sg (k + 1)))] [] (c_X7_passes l D cI cZ cO hM aS aPa aSl aSv aPd kn ln f 0 ct (z_nm ln sg (k + 1)) (by first | assumption | omega) hrel (by first | assumption | omega) (by omega) (by omega)) gX7_carries_X7_passes rfl zd_X7_passes rfl (by decide) rfl rfl rfl (by decide) (fun _ => rfl) (fun _ => rfl) rfl (Nat.le_of_ble_eq_true rfl) (by decide) dX7_carries_96 (fun u1 ri1 hp1 => ?_)
      refine z_istore_n C [(3, .int (z_I ri1)), (2, .int (z_I wq)), (0, .ref hM), (1, .int (z_I k))] dX7_carries_99 (by decide) rfl ?_
      refine z_iload_n C 1 dX7_carries_100 rfl ?_
      exact z_irete C hQ u1 rfl (by first | exact ⟨by rw [hres]; exact hp1.2.1, by rw [hres]; (try dsimp only); omega, by omega, by omega⟩ | exact ⟨by rw [hres]; exact hrel, by rw [hres]; (try dsimp only); omega, by omega, by omega⟩) dX7_carries_101
    · skip
      have hres : (z_c1 ln sg ct k) = (ct, wq) := by rw [hc1]; unfold z_lp; rcases hwd with h9 | h9 | h9; (· omega); (· rw [if_pos h9.2.1, if_neg h9.2.2, h9.1]); (· rw [if_neg h9.2, h9.1])
      refine z_iconst C 0 dX7_carries_83 ?_
      refine z_goto C 99 dX7_carries_84 (by decide) ?_
      refine z_istore_n C [(3, .int (z_I 0)), (2, .int (z_I wq)), (0, .ref hM), (1, .int (z_I k))] dX7_carries_99 (by decide) rfl ?_
      refine z_iload_n C 1 dX7_carries_100 rfl ?_
      exact z_irete C hQ f rfl (by first | exact ⟨by rw [hres]; exact hp1.2.1, by rw [hres]; (try dsimp only); omega, by omega, by omega⟩ | exact ⟨by rw [hres]; exact hrel, by rw [hres]; (try dsimp only); omega, by omega, by omega⟩) dX7_carries_101
  refine z_look C 166 dX7_carries_9 (by decide +kernel) (by omega) (z_off4 hc1 hc3 hc5 hc7) (by decide) ?_
  have hc1 := z_c1_w (ct := ct) (show z_sg ln sg k = 119 by omega)
  refine z_aload_n C 2 dX7_carries_166 rfl ?_
  refine z_callVi C [0, 1] [(hM, .inr (7, [.ref aS, .ref aPa, .int (z_I kn), .ref aSl, .ref aSv, .ref aPd, .int (z_I ln)])), (aS, z_ai cI 712 f), (aPd, z_ai cI 80 pd)] [] [] (c_X7_whyNotLatch l D cI cZ cO hM aS aPa aSl aSv aPd kn ln f ct (by first | assumption | omega) (by first | assumption | omega) (by first | assumption | omega)) gX7_carries_X7_whyNotLatch rfl zd_X7_whyNotLatch rfl (by decide) rfl rfl rfl (by decide) rfl rfl rfl (Nat.le_of_ble_eq_true rfl) (by decide) dX7_carries_167 ?_
  have hwd : ((if ct.2.2.2.2.2.2.2 = 1 then -5 else if 99 ≤ ct.2.1.1 + ct.2.2.2.2.2.2.2 then -4 else 0) = -5 ∧ ct.2.2.2.2.2.2.2 = 1) ∨ ((if ct.2.2.2.2.2.2.2 = 1 then -5 else if 99 ≤ ct.2.1.1 + ct.2.2.2.2.2.2.2 then -4 else 0) = -4 ∧ ¬ ct.2.2.2.2.2.2.2 = 1 ∧ 99 ≤ ct.2.1.1 + ct.2.2.2.2.2.2.2) ∨ ((if ct.2.2.2.2.2.2.2 = 1 then -5 else if 99 ≤ ct.2.1.1 + ct.2.2.2.2.2.2.2 then -4 else 0) = 0 ∧ ¬ ct.2.2.2.2.2.2.2 = 1 ∧ ¬ 99 ≤ ct.2.1.1 + ct.2.2.2.2.2.2.2) := by
    by_cases q : ct.2.2.2.2.2.2.2 = 1
    · rw [if_pos q]; exact Or.inl ⟨rfl, q⟩
    · by_cases q2 : 99 ≤ ct.2.1.1 + ct.2.2.2.2.2.2.2
      · rw [if_neg q, if_pos q2]; exact Or.inr (Or.inl ⟨rfl, q, q2⟩)
      · rw [if_neg q, if_neg q2]; exact Or.inr (Or.inr ⟨rfl, q, q2⟩)
  generalize hwq : (if ct.2.2.2.2.2.2.2 = 1 then -5 else if 99 ≤ ct.2.1.1 + ct.2.2.2.2.2.2.2 then -4 else 0) = wq at hwd ⊢
  refine z_istore_n C [(2, .int (z_I wq)), (3, .int (z_I 0)), (0, .ref hM), (1, .int (z_I k))] dX7_carries_170 (by decide) rfl ?_
  refine z_aload_n C 2 dX7_carries_171 rfl ?_
  refine z_get C 0 0 zi_X7_carries_X7 rfl rfl (by decide) zl_X7_carries_7 rfl rfl dX7_carries_172 ?_
  refine z_bipush C 6 dX7_carries_175 (by decide) ?_
  refine z_iload_n C 0 dX7_carries_177 rfl ?_
  refine z_if_ne C 185 dX7_carries_178 (by decide) (by omega) (fun hc9 => ?_) (fun hc9 => ?_)
  · skip
    have hself : z_u f 6 (f 6) = f := by
      funext j9
      unfold z_u
      split
      · rename_i h8; rw [h8]
      · rfl
    have hres : (z_c1 ln sg ct k) = (ct, wq) := by
      rw [hc1]; unfold z_sl
      rcases hwd with h9 | h9 | h9
      · rw [if_pos (by omega), h9.1]
      · rw [if_neg (by omega), if_pos (by omega), h9.1]
      · omega
    refine z_aload_n C 2 dX7_carries_185 rfl ?_
    refine z_get C 0 0 zi_X7_carries_X7 rfl rfl (by decide) zl_X7_carries_7 rfl rfl dX7_carries_186 ?_
    refine z_bipush C 6 dX7_carries_189 (by decide) ?_
    refine z_iald C 1 0 rfl rfl (by decide) (by omega) dX7_carries_191 ?_
    refine z_iast C 1 0 ([(hM, .inr (7, [.ref aS, .ref aPa, .int (z_I kn), .ref aSl, .ref aSv, .ref aPd, .int (z_I ln)])), (aS, z_ai cI 712 (z_u f 6 (f 6))), (aPd, z_ai cI 80 pd)]) rfl rfl (by decide) (by omega) rfl dX7_carries_192 ?_
    refine z_iload_n C 0 dX7_carries_193 rfl ?_
    exact z_irete C hQ (z_u f 6 (f 6)) rfl (by first | exact ⟨by rw [hres, hself]; exact hrel, by rw [hres]; (try dsimp only); omega, by omega, by omega⟩ | exact ⟨by rw [hres, show (6 : Int) = 0 + 6 by omega]; exact z_rl_lw hrel hrn.1 hsn.1, by rw [hres]; (try dsimp only); omega, by omega, by omega⟩) dX7_carries_194
  · skip
    have hres : (z_c1 ln sg ct k) = ((ct.1, ct.2.1, ct.2.2.1, ct.2.2.2.1, ct.2.2.2.2.1, ct.2.2.2.2.2.1, ct.2.2.2.2.2.2.1, 1), 1) := by rw [hc1]; unfold z_sl; rw [if_neg (by omega), if_neg (by omega)]
    refine z_iconst C 1 dX7_carries_181 ?_
    refine z_goto C 192 dX7_carries_182 (by decide) ?_
    refine z_iast C 1 0 ([(hM, .inr (7, [.ref aS, .ref aPa, .int (z_I kn), .ref aSl, .ref aSv, .ref aPd, .int (z_I ln)])), (aS, z_ai cI 712 (z_u f 6 1)), (aPd, z_ai cI 80 pd)]) rfl rfl (by decide) (by omega) rfl dX7_carries_192 ?_
    refine z_iload_n C 0 dX7_carries_193 rfl ?_
    exact z_irete C hQ (z_u f 6 1) rfl (by first | exact ⟨by rw [hres, hself]; exact hrel, by rw [hres]; (try dsimp only); omega, by omega, by omega⟩ | exact ⟨by rw [hres, show (6 : Int) = 0 + 6 by omega]; exact z_rl_lw hrel hrn.1 hsn.1, by rw [hres]; (try dsimp only); omega, by omega, by omega⟩) dX7_carries_194
