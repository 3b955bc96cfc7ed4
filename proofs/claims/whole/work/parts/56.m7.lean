theorem zd_X7_stillIn : yX7_stillIn.cls ≠ "java/lang/invoke/MethodHandle" ∧ yX7_stillIn.cls ≠ "java/lang/invoke/VarHandle" ∧ (parseMethodDescriptor yX7_stillIn.desc).map (fun d => d.parameters.length) = some 0 := by decide +kernel
set_option maxHeartbeats 4000000 in
set_option maxRecDepth 100000 in
theorem c_X7_stillIn (l : Launch) (D : va_G) (cI cZ cO : ClassId) (hM aS aPa aSl aSv aPd : Nat) (kn ln : Int) (f : Int → Int) (ct : z_Ct) (hrel : z_rel ct 0 f) (hok : z_ok ct) (htt : ct.1.1 ≤ 9999) : z_Ei (Int → Int) l yX7_stillIn wsX7_stillIn 4 93 D (z_T cI cZ cO) [.ref hM] ([(hM, .inr (7, [.ref aS, .ref aPa, .int (z_I kn), .ref aSl, .ref aSv, .ref aPd, .int (z_I ln)])), (aS, z_ai cI 712 f)]) (fun u => [(hM, .inr (7, [.ref aS, .ref aPa, .int (z_I kn), .ref aSl, .ref aSv, .ref aPd, .int (z_I ln)])), (aS, z_ai cI 712 u)]) (fun ri u => ri = (z_si ct.1 0 101).1 ∧ z_rel ct 0 u) := by
  refine z_Ei_of (cc := cX7_stillIn) (nL := 3) (ret := (some .int)) (by decide +kernel) rfl (Nat.le_of_ble_eq_true rfl) ?_
  intro p e s m args below meth c A Q C hQ
  change z_V p l e { frames := 4, cells := 0, slots := 0, locals := 93 } s m args below meth c D A 3 0 0 Q ([(hM, .inr (7, [.ref aS, .ref aPa, .int (z_I kn), .ref aSl, .ref aSv, .ref aPd, .int (z_I ln)])), (aS, z_ai cI 712 f)]) 0 [(0, .ref hM)] []
  obtain ⟨hw, hrd, hsg, hho, hck, hlc, hld, hlw, hrl0⟩ := id hok
  obtain ⟨ht0, hst, hsh, hdl, hdu, hdn, hB, htot, hbit, hzero, how⟩ := id hw
  obtain ⟨hrn, hrr, hla⟩ := id hrd
  obtain ⟨hsn, hrk, hfo, hcnt, hinj, hsur⟩ := id hsg
  have hp := z_p2_le (k := ct.1.2.1) (by omega)
  obtain ⟨y0, y1, y2, y3, y4, y5, y6, y7, y8⟩ := hrel.1
  simp only [Int.zero_add] at y1 y2 y3 y4 y5 y6 y7 y8
  refine z_aload_n C 0 dX7_stillIn_0 rfl ?_
  refine z_callEv C [0, 1] (fun u1 => [(hM, .inr (7, [.ref aS, .ref aPa, .int (z_I kn), .ref aSl, .ref aSv, .ref aPd, .int (z_I ln)])), (aS, z_ai cI 712 u1)]) [] [] (c_X7_copies l D cI cZ cO hM aS aPa aSl aSv aPd kn ln f ) gX7_stillIn_X7_copies rfl zd_X7_copies rfl (by decide) rfl rfl rfl (by decide) (fun _ => rfl) (fun _ => rfl) rfl (Nat.le_of_ble_eq_true rfl) (by decide) dX7_stillIn_1 (fun u1 hp1 => ?_)
  have hcp := z_cop hrel hok hp1
  refine z_iconst C 0 dX7_stillIn_4 ?_
  refine z_istore_n C [(1, .int (z_I 0)), (0, .ref hM)] dX7_stillIn_5 (by decide) rfl ?_
  have loop6 : ∀ (zn : Nat) (j : Int) (q : z_Ct) (g : Int → Int), 0 ≤ j ∧ j ≤ 101 → z_ok q → z_rel q 356 g → (∀ i : Int, i < 356 → g i = f i) → q.1.1 = ct.1.1 + j → z_si ct.1 0 101 = z_si q.1 j (101 - j).toNat → z_pot q.1.1 q.1.2.2.2.2.1 q.1.2.2.2.2.2.2 (100 - j) → (101 - j) < (zn : Int) → z_V p l e { frames := 4, cells := 0, slots := 0, locals := 93 } s m args below meth c D A 3 0 0 Q [(hM, .inr (7, [.ref aS, .ref aPa, .int (z_I kn), .ref aSl, .ref aSv, .ref aPd, .int (z_I ln)])), (aS, z_ai cI 712 g)] 6 [(1, .int (z_I j)), (0, .ref hM)] [] := by
    intro zn
    induction zn with
    | zero => intro j q g hj hqo hqr hfr hqt hsi hqp hm6; exact absurd hm6 (by omega)
    | succ zn6 ih6 =>
      intro j q g hj hqo hqr hfr hqt hsi hqp hm6
      obtain ⟨qw, qrd, qsg, qho, qck, qlc, qld, qlw, qrl⟩ := id hqo
      obtain ⟨qt0, qst, qsh, qdl, qdu, qdn, qB, qtot, qbit, qzero, qow⟩ := id qw
      have hall := z_allOn (r := (0, 0, 0, (fun _ => 0), q.1.2.2.2.2.2.2)) hqr qt0 qst qzero
      dsimp only at hall
      rw [← qow] at hall
      have hg0 : g 356 = q.1.2.1 := hqr.1.1
      have hqB := z_wok_ow qw
      refine z_aload_n C 1 dX7_stillIn_6 rfl ?_
      refine z_sipush C 356 dX7_stillIn_7 (by decide) ?_
      refine z_callVi C [0, 1] [(hM, .inr (7, [.ref aS, .ref aPa, .int (z_I kn), .ref aSl, .ref aSv, .ref aPd, .int (z_I ln)])), (aS, z_ai cI 712 g)] [.int (z_I 356)] [] (c_X7_allOnWay l D cI cZ cO hM aS aPa aSl aSv aPd kn ln g 356 (by first | assumption | omega) (by omega)) gX7_stillIn_X7_allOnWay rfl zd_X7_allOnWay rfl (by decide) rfl rfl rfl (by decide) rfl rfl rfl (Nat.le_of_ble_eq_true rfl) (by decide) dX7_stillIn_10 ?_
      refine z_if_le C 30 dX7_stillIn_13 (by decide) (by rw [hall]; omega) (fun hc1 => ?_) (fun hc1 => ?_)
      · skip
        have hpos : ¬ 0 < q.1.2.2.2.1 := by rw [hall] at hc1; omega
        refine z_iload_n C 0 dX7_stillIn_30 rfl ?_
        exact z_irete C hQ g rfl ⟨by rw [hsi, z_si_0 hpos], z_rel_fr hrel hok hfr⟩ dX7_stillIn_31
      · skip
        have hpos : 0 < q.1.2.2.2.1 := by rw [hall] at hc1; omega
        refine z_aload_n C 1 dX7_stillIn_16 rfl ?_
        refine z_sipush C 356 dX7_stillIn_17 (by decide) ?_
        refine z_callEi C [0, 1] (fun u2 => [(hM, .inr (7, [.ref aS, .ref aPa, .int (z_I kn), .ref aSl, .ref aSv, .ref aPd, .int (z_I ln)])), (aS, z_ai cI 712 u2)]) [.int (z_I 356)] [] (c_X7_passesOne l D cI cZ cO hM aS aPa aSl aSv aPd kn ln g 356 q (by first | assumption | omega) hqr hqo (by omega)) gX7_stillIn_X7_passesOne rfl zd_X7_passesOne rfl (by decide) rfl rfl rfl (by decide) (fun _ => rfl) (fun _ => rfl) rfl (Nat.le_of_ble_eq_true rfl) (by decide) dX7_stillIn_20 (fun u2 ri2 hp2 => ?_)
        refine z_istore_n C [(2, .int (z_I ri2)), (1, .int (z_I j)), (0, .ref hM)] dX7_stillIn_23 (by decide) rfl ?_
        refine z_iinc C 1 [(1, .int (z_I (j + 1))), (2, .int (z_I ri2)), (0, .ref hM)] dX7_stillIn_24 rfl (by decide) rfl ?_
        refine z_goto C 6 dX7_stillIn_27 (by decide) ?_
        refine z_lsub [(1, .int (z_I (j + 1))), (0, .ref hM)] [0, 2] rfl ?_
        exact ih6 (j + 1) (z_nano q) u2 (by have h9 := z_pot_pos hqo hqp hpos; omega) (z_ok_nano hqo) hp2.2.1 (fun i hi => by rw [hp2.2.2 i (Or.inl hi)]; exact hfr i hi) (by show q.1.1 + 1 = _; omega) (by rw [hsi, z_si_s (m := (101 - (j + 1)).toNat) (by have h9 := z_pot_pos hqo hqp hpos; omega) hpos, z_wn_nano]) (by rw [show 100 - (j + 1) = 100 - j - 1 by omega]; exact z_pot_nano hqo hqp) (by omega)
  exact loop6 102 0 ct u1 (by first | assumption | omega) hok hcp.1 hcp.2 (by omega) rfl (by rw [Int.sub_zero]; exact z_pot_0 hdl) (by omega)
theorem zd_X7_showsIn : yX7_showsIn.cls ≠ "java/lang/invoke/MethodHandle" ∧ yX7_showsIn.cls ≠ "java/lang/invoke/VarHandle" ∧ (parseMethodDescriptor yX7_showsIn.desc).map (fun d => d.parameters.length) = some 1 := by decide +kernel
set_option maxHeartbeats 4000000 in
set_option maxRecDepth 100000 in
theorem c_X7_showsIn (l : Launch) (D : va_G) (cI cZ cO : ClassId) (hM aS aPa aSl aSv aPd : Nat) (kn ln : Int) (f : Int → Int) (ct : z_Ct) (tr : z_Wv) (k : Int) (hrel : z_rel ct 0 f) (hok : z_ok ct) (htt : ct.1.1 ≤ 9999) (hk : -2147483648 ≤ k ∧ k < 2147483648) : z_Ei (Int → Int) l yX7_showsIn wsX7_showsIn 5 117 D (z_T cI cZ cO) [.ref hM, .int (z_I k)] ([(hM, .inr (7, [.ref aS, .ref aPa, .int (z_I kn), .ref aSl, .ref aSv, .ref aPd, .int (z_I ln)])), (aS, z_ai cI 712 f)]) (fun u => [(hM, .inr (7, [.ref aS, .ref aPa, .int (z_I kn), .ref aSl, .ref aSv, .ref aPd, .int (z_I ln)])), (aS, z_ai cI 712 u)]) (fun ri u => ri = (z_sh ct.1 tr k).1 ∧ z_rel ct 0 u) := by
  refine z_Ei_of (cc := cX7_showsIn) (nL := 3) (ret := (some .int)) (by decide +kernel) rfl (Nat.le_of_ble_eq_true rfl) ?_
  intro p e s m args below meth c A Q C hQ
  change z_V p l e { frames := 5, cells := 0, slots := 0, locals := 117 } s m args below meth c D A 3 0 0 Q ([(hM, .inr (7, [.ref aS, .ref aPa, .int (z_I kn), .ref aSl, .ref aSv, .ref aPd, .int (z_I ln)])), (aS, z_ai cI 712 f)]) 0 [(0, .ref hM), (1, .int (z_I k))] []
  obtain ⟨hw, hrd, hsg, hho, hck, hlc, hld, hlw, hrl0⟩ := id hok
  obtain ⟨ht0, hst, hsh, hdl, hdu, hdn, hB, htot, hbit, hzero, how⟩ := id hw
  obtain ⟨hrn, hrr, hla⟩ := id hrd
  obtain ⟨hsn, hrk, hfo, hcnt, hinj, hsur⟩ := id hsg
  have hp := z_p2_le (k := ct.1.2.1) (by omega)
  obtain ⟨y0, y1, y2, y3, y4, y5, y6, y7, y8⟩ := hrel.1
  simp only [Int.zero_add] at y1 y2 y3 y4 y5 y6 y7 y8
  refine z_iload_n C 1 dX7_showsIn_0 rfl ?_
  refine z_iconst C 0 dX7_showsIn_1 ?_
  refine z_bipush C 99 dX7_showsIn_2 (by decide) ?_
  refine z_callSi C [] [(hM, .inr (7, [.ref aS, .ref aPa, .int (z_I kn), .ref aSl, .ref aSv, .ref aPd, .int (z_I ln)])), (aS, z_ai cI 712 f)] [.int (z_I k), .int (z_I 0), .int (z_I 99)] [] (c_X7_in l D cI cZ cO k 0 99 (by first | assumption | omega) (by first | assumption | omega) (by first | assumption | omega)) gX7_showsIn_X7_in rfl zd_X7_in rfl (by decide) rfl (by decide) rfl rfl rfl (Nat.le_of_ble_eq_true rfl) (by decide) dX7_showsIn_4 ?_
  refine z_if_ne C 13 dX7_showsIn_7 (by decide) (by omega) (fun hc1 => ?_) (fun hc1 => ?_)
  · skip
    have hz := z_if1.mp hc1
    refine z_aload_n C 0 dX7_showsIn_13 rfl ?_
    refine z_callEv C [0, 1] (fun u1 => [(hM, .inr (7, [.ref aS, .ref aPa, .int (z_I kn), .ref aSl, .ref aSv, .ref aPd, .int (z_I ln)])), (aS, z_ai cI 712 u1)]) [] [] (c_X7_copies l D cI cZ cO hM aS aPa aSl aSv aPd kn ln f ) gX7_showsIn_X7_copies rfl zd_X7_copies rfl (by decide) rfl rfl rfl (by decide) (fun _ => rfl) (fun _ => rfl) rfl (Nat.le_of_ble_eq_true rfl) (by decide) dX7_showsIn_14 (fun u1 hp1 => ?_)
    have hcp := z_cop hrel hok hp1
    refine z_aload_n C 0 dX7_showsIn_17 rfl ?_
    refine z_sipush C 356 dX7_showsIn_18 (by decide) ?_
    refine z_iload_n C 1 dX7_showsIn_21 rfl ?_
    refine z_callEi C [0, 1] (fun u2 => [(hM, .inr (7, [.ref aS, .ref aPa, .int (z_I kn), .ref aSl, .ref aSv, .ref aPd, .int (z_I ln)])), (aS, z_ai cI 712 u2)]) [.int (z_I 356), .int (z_I k)] [] (c_X7_passes l D cI cZ cO hM aS aPa aSl aSv aPd kn ln u1 356 ct k (by first | assumption | omega) hcp.1 hok (by first | assumption | omega) (by omega)) gX7_showsIn_X7_passes rfl zd_X7_passes rfl (by decide) rfl rfl rfl (by decide) (fun _ => rfl) (fun _ => rfl) rfl (Nat.le_of_ble_eq_true rfl) (by decide) dX7_showsIn_22 (fun u2 ri2 hp2 => ?_)
    have hps := z_ps_aux hok k.toNat
    have hpw := hps.1.1
    have hy0 := hp2.2.1.1.1
    refine z_istore_n C [(2, .int (z_I ri2)), (0, .ref hM), (1, .int (z_I k))] dX7_showsIn_25 (by decide) rfl ?_
    refine z_aload_n C 1 dX7_showsIn_26 rfl ?_
    refine z_sipush C 356 dX7_showsIn_27 (by decide) ?_
    refine z_callVi C [0, 1] [(hM, .inr (7, [.ref aS, .ref aPa, .int (z_I kn), .ref aSl, .ref aSv, .ref aPd, .int (z_I ln)])), (aS, z_ai cI 712 u2)] [.int (z_I 356)] [] (c_X7_shows l D cI cZ cO hM aS aPa aSl aSv aPd kn ln u2 356 (by first | assumption | omega) (by have := hpw.2.1; omega) (z_out01 hp2.2.1)) gX7_showsIn_X7_shows rfl zd_X7_shows rfl (by decide) rfl rfl rfl (by decide) rfl rfl rfl (Nat.le_of_ble_eq_true rfl) (by decide) dX7_showsIn_30 ?_
    exact z_irete C hQ u2 rfl ⟨by rw [show z_sh ct.1 tr k = _ from if_pos (by omega), z_wn_ps]; exact z_shows hp2.2.1 hpw.2.1 hpw.2.2.1, z_rel_fr hrel hok (fun i hi => by rw [hp2.2.2 i (Or.inl hi)]; exact hcp.2 i hi)⟩ dX7_showsIn_33
  · skip
    have hz := z_if0.mp (by omega)
    refine z_bipush C (-2) dX7_showsIn_10 (by decide) ?_
    exact z_irete C hQ f rfl ⟨by rw [show z_sh ct.1 tr k = (-2, tr) from if_neg (by omega)], hrel⟩ dX7_showsIn_12
theorem zi_X7_wrongWith_X7 : ∀ w ∈ u_ws RX7 TX7 7, w ∈ wsX7_wrongWith := by decide +kernel
theorem zl_X7_wrongWith_7 : Cond.fieldLink RX7 7 "RippleCountsModel" "s" "[I" ∈ wsX7_wrongWith := by decide +kernel
theorem zd_X7_wrongWith : yX7_wrongWith.cls ≠ "java/lang/invoke/MethodHandle" ∧ yX7_wrongWith.cls ≠ "java/lang/invoke/VarHandle" ∧ (parseMethodDescriptor yX7_wrongWith.desc).map (fun d => d.parameters.length) = some 1 := by decide +kernel
set_option maxHeartbeats 4000000 in
set_option maxRecDepth 100000 in
theorem c_X7_wrongWith (l : Launch) (D : va_G) (cI cZ cO : ClassId) (hM aS aPa aSl aSv aPd : Nat) (kn ln : Int) (f : Int → Int) (ct : z_Ct) (g : Int) (hrel : z_rel ct 356 f) (hok : z_ok ct) (htt : ct.1.1 ≤ 100000) (hg : 1 ≤ g ∧ g ≤ 50) : z_Ei ((Int → Int) × z_Ct) l yX7_wrongWith wsX7_wrongWith 5 117 D (z_T cI cZ cO) [.ref hM, .int (z_I g)] ([(hM, .inr (7, [.ref aS, .ref aPa, .int (z_I kn), .ref aSl, .ref aSv, .ref aPd, .int (z_I ln)])), (aS, z_ai cI 712 f)]) (fun u => [(hM, .inr (7, [.ref aS, .ref aPa, .int (z_I kn), .ref aSl, .ref aSv, .ref aPd, .int (z_I ln)])), (aS, z_ai cI 712 u.1)]) (fun ri u => ri = (z_wc ct.1.2.1 ct.1.2.2.2.2.1 g) ∧ z_rel u.2 356 u.1 ∧ z_ok u.2 ∧ u.2.1.2.1 = ct.1.2.1 ∧ u.2.1.2.2.2.2.1 = ct.1.2.2.2.2.1 ∧ u.2.1.1 ≤ ct.1.1 + 1600 ∧ ∀ i : Int, i < 356 → u.1 i = f i) := by
  refine z_Ei_of (cc := cX7_wrongWith) (nL := 5) (ret := (some .int)) (by decide +kernel) rfl (Nat.le_of_ble_eq_true rfl) ?_
  intro p e s m args below meth c A Q C hQ
  change z_V p l e { frames := 5, cells := 0, slots := 0, locals := 117 } s m args below meth c D A 5 0 0 Q ([(hM, .inr (7, [.ref aS, .ref aPa, .int (z_I kn), .ref aSl, .ref aSv, .ref aPd, .int (z_I ln)])), (aS, z_ai cI 712 f)]) 0 [(0, .ref hM), (1, .int (z_I g))] []
  obtain ⟨hw, hrd, hsg, hho, hck, hlc, hld, hlw, hrl0⟩ := id hok
  obtain ⟨ht0, hst, hsh, hdl, hdu, hdn, hB, htot, hbit, hzero, how⟩ := id hw
  obtain ⟨hrn, hrr, hla⟩ := id hrd
  obtain ⟨hsn, hrk, hfo, hcnt, hinj, hsur⟩ := id hsg
  have hp := z_p2_le (k := ct.1.2.1) (by omega)
  obtain ⟨y0, y1, y2, y3, y4, y5, y6, y7, y8⟩ := hrel.1
  refine z_aload_n C 0 dX7_wrongWith_0 rfl ?_
  refine z_sipush C 356 dX7_wrongWith_1 (by decide) ?_
  refine z_callEv C [0, 1] (fun u1 => [(hM, .inr (7, [.ref aS, .ref aPa, .int (z_I kn), .ref aSl, .ref aSv, .ref aPd, .int (z_I ln)])), (aS, z_ai cI 712 u1)]) [.int (z_I 356)] [] (c_X7_begins l D cI cZ cO hM aS aPa aSl aSv aPd kn ln f 356 ct (fun _ _ => True) (fun k i => ct.1.2.2.2.2.2.2 (k * 21 + (ct.1.1 + i) % 21)) (by first | assumption | omega) hrel) gX7_wrongWith_X7_begins rfl zd_X7_begins rfl (by decide) rfl rfl rfl (by decide) (fun _ => rfl) (fun _ => rfl) rfl (Nat.le_of_ble_eq_true rfl) (by decide) dX7_wrongWith_4 (fun u1 hp1 => ?_)
  refine z_iconst C 0 dX7_wrongWith_7 ?_
  refine z_istore_n C [(2, .int (z_I 0)), (0, .ref hM), (1, .int (z_I g))] dX7_wrongWith_8 (by decide) rfl ?_
  refine z_iconst C 0 dX7_wrongWith_9 ?_
  refine z_istore_n C [(3, .int (z_I 0)), (2, .int (z_I 0)), (0, .ref hM), (1, .int (z_I g))] dX7_wrongWith_10 (by decide) rfl ?_
  have loop11 : ∀ (zn : Nat) (j : Int) (a : Int) (h : Int → Int), 0 ≤ j ∧ j ≤ z_p2 ct.1.2.1 → a = (z_wt ct g j.toNat).2 → z_rel (z_wt ct g j.toNat).1 356 h → (∀ i : Int, i < 356 → h i = f i) → (z_p2 ct.1.2.1 - j) < (zn : Int) → z_V p l e { frames := 5, cells := 0, slots := 0, locals := 117 } s m args below meth c D A 5 0 0 Q [(hM, .inr (7, [.ref aS, .ref aPa, .int (z_I kn), .ref aSl, .ref aSv, .ref aPd, .int (z_I ln)])), (aS, z_ai cI 712 h)] 11 [(3, .int (z_I j)), (2, .int (z_I a)), (0, .ref hM), (1, .int (z_I g))] [] := by
    intro zn
    induction zn with
    | zero => intro j a h hj ha hh hfr hm11; exact absurd hm11 (by omega)
    | succ zn11 ih11 =>
      intro j a h hj ha hh hfr hm11
      have hwt := z_wt_ok hok hg htt j.toNat (by omega)
      have hh0 := hh.1.1
      have hh9 := hh.2.1 0 (by omega) (by omega)
      have hwd := hwt.1.1.2.2.2.1 0 (by omega) (by omega)
      have hwc := hwt.1.2.2.2.2.1
      have hh3 := hh.1.2.2.2.1
      have hpw := z_p2_le (k := ct.1.2.1) (by omega)
      rw [hwt.2.1] at hwc hh0
      refine z_iload_n C 0 dX7_wrongWith_11 rfl ?_
      refine z_iconst C 1 dX7_wrongWith_12 ?_
      refine z_aload_n C 2 dX7_wrongWith_13 rfl ?_
      refine z_sipush C 356 dX7_wrongWith_14 (by decide) ?_
      refine z_callVi C [0, 1] [(hM, .inr (7, [.ref aS, .ref aPa, .int (z_I kn), .ref aSl, .ref aSv, .ref aPd, .int (z_I ln)])), (aS, z_ai cI 712 h)] [.int (z_I 356)] [.int (z_I 1), .int (z_I j)] (c_X7_stages l D cI cZ cO hM aS aPa aSl aSv aPd kn ln h 356 (by first | assumption | omega)) gX7_wrongWith_X7_stages rfl zd_X7_stages rfl (by decide) rfl rfl rfl (by decide) rfl rfl rfl (Nat.le_of_ble_eq_true rfl) (by decide) dX7_wrongWith_17 ?_
      refine z_ishl C (z_p2 (h 356)) dX7_wrongWith_20 (z_shl1 (by rw [hh0]; omega)) ?_
      refine z_icmp_ge C 73 dX7_wrongWith_21 (by decide) (by omega) (by rw [hh0]; omega) (fun hc1 => ?_) (fun hc1 => ?_)
      · skip
        rw [hh0] at hc1
        have hjn : j = z_p2 ct.1.2.1 := by omega
        refine z_iload_n C 1 dX7_wrongWith_73 rfl ?_
        exact z_irete C hQ (h, (z_wt ct g j.toNat).1) rfl ⟨by rw [ha, hjn]; exact z_wt_wc hok hg htt, hh, hwt.1, hwt.2.1, hwt.2.2.1, (by show (z_wt ct g j.toNat).1.1.1 ≤ _; omega), hfr⟩ dX7_wrongWith_74
      · skip
        rw [hh0] at hc1
        have hck9 := z_rel_ck hh hwt.1
        have htk := z_ok_take hwt.1 (by omega)
        have hpk := z_ps_aux htk g.toNat
        have hpk0 := hpk.1.1
        refine z_aload_n C 2 dX7_wrongWith_24 rfl ?_
        refine z_sipush C 356 dX7_wrongWith_25 (by decide) ?_
        refine z_callVv C [0, 1] [(hM, .inr (7, [.ref aS, .ref aPa, .int (z_I kn), .ref aSl, .ref aSv, .ref aPd, .int (z_I ln)])), (aS, z_ai cI 712 (z_ck 356 h))] [.int (z_I 356)] [] (c_X7_clocks l D cI cZ cO hM aS aPa aSl aSv aPd kn ln h 356 (by first | assumption | omega) (by rw [hh0]; omega) (by rw [show (356 : Int) + 9 = 356 + 9 + 0 by omega, hh9.1]; omega) (by rw [hh3]; omega)) gX7_wrongWith_X7_clocks rfl zd_X7_clocks rfl (by decide) rfl rfl rfl (by decide) rfl rfl rfl (Nat.le_of_ble_eq_true rfl) (by decide) dX7_wrongWith_28 ?_
        refine z_aload_n C 2 dX7_wrongWith_31 rfl ?_
        refine z_sipush C 356 dX7_wrongWith_32 (by decide) ?_
        refine z_iload_n C 3 dX7_wrongWith_35 rfl ?_
        refine z_callEi C [0, 1] (fun u2 => [(hM, .inr (7, [.ref aS, .ref aPa, .int (z_I kn), .ref aSl, .ref aSv, .ref aPd, .int (z_I ln)])), (aS, z_ai cI 712 u2)]) [.int (z_I 356), .int (z_I g)] [] (c_X7_passes l D cI cZ cO hM aS aPa aSl aSv aPd kn ln (z_ck 356 h) 356 (z_take (z_wt ct g j.toNat).1) g (by first | assumption | omega) hck9.1 htk (by omega) (by show (z_wt ct g j.toNat).1.1.1 < 800000; omega)) gX7_wrongWith_X7_passes rfl zd_X7_passes rfl (by decide) rfl rfl rfl (by decide) (fun _ => rfl) (fun _ => rfl) rfl (Nat.le_of_ble_eq_true rfl) (by decide) dX7_wrongWith_36 (fun u2 ri2 hp2 => ?_)
        have hsw := z_shows hp2.2.1 hpk0.2.1 hpk0.2.2.1
        have hkw : u2 359 = (z_ps (z_take (z_wt ct g j.toNat).1) g.toNat).1.2.2.2.2.1 := hp2.2.1.1.2.2.2.1
        have hsh2 := hpk0.2.2.1
        have hck2 := hpk.1.2.2.2.2.1
        have hp22 := z_p2_le (k := (z_ps (z_take (z_wt ct g j.toNat).1) g.toNat).1.1.2.1) (by have := hpk0.2.1; omega)
        refine z_istore C [(4, .int (z_I ri2)), (3, .int (z_I j)), (2, .int (z_I a)), (0, .ref hM), (1, .int (z_I g))] dX7_wrongWith_39 (by decide) rfl ?_
        refine z_iload_n C 2 dX7_wrongWith_41 rfl ?_
        refine z_aload_n C 3 dX7_wrongWith_42 rfl ?_
        refine z_sipush C 356 dX7_wrongWith_43 (by decide) ?_
        refine z_callVi C [0, 1] [(hM, .inr (7, [.ref aS, .ref aPa, .int (z_I kn), .ref aSl, .ref aSv, .ref aPd, .int (z_I ln)])), (aS, z_ai cI 712 u2)] [.int (z_I 356)] [.int (z_I a)] (c_X7_shows l D cI cZ cO hM aS aPa aSl aSv aPd kn ln u2 356 (by first | assumption | omega) (by have := hp2.2.1.1.1; have := hpk0.2.1; omega) (z_out01 hp2.2.1)) gX7_wrongWith_X7_shows rfl zd_X7_shows rfl (by decide) rfl rfl rfl (by decide) rfl rfl rfl (Nat.le_of_ble_eq_true rfl) (by decide) dX7_wrongWith_46 ?_
        refine z_aload_n C 3 dX7_wrongWith_49 rfl ?_
        refine z_get C 0 0 zi_X7_wrongWith_X7 rfl rfl (by decide) zl_X7_wrongWith_7 rfl rfl dX7_wrongWith_50 ?_
        refine z_sipush C 359 dX7_wrongWith_53 (by decide) ?_
        refine z_iald C 1 0 rfl rfl (by decide) (by omega) dX7_wrongWith_56 ?_
        refine z_icmp_ne C 64 dX7_wrongWith_57 (by decide) (by rw [hsw]; omega) (by first | (rw [← hkw]; omega) | omega) (fun hc2 => ?_) (fun hc2 => ?_)
        · skip
          refine z_iconst C 1 dX7_wrongWith_64 ?_
          refine z_iadd C dX7_wrongWith_65 ?_
          refine z_istore_n C [(2, .int (z_I (a + 1))), (4, .int (z_I ri2)), (3, .int (z_I j)), (0, .ref hM), (1, .int (z_I g))] dX7_wrongWith_66 (by decide) rfl ?_
          refine z_iinc C 2 [(3, .int (z_I (j + 1))), (2, .int (z_I (a + 1))), (4, .int (z_I ri2)), (0, .ref hM), (1, .int (z_I g))] dX7_wrongWith_67 rfl (by decide) rfl ?_
          refine z_goto C 11 dX7_wrongWith_70 (by decide) ?_
          refine z_lsub [(3, .int (z_I (j + 1))), (2, .int (z_I (a + 1))), (0, .ref hM), (1, .int (z_I g))] [0, 1, 3, 4] rfl ?_
          exact ih11 (j + 1) (a + 1) u2 (by first | assumption | omega) (by rw [show (j + 1).toNat = j.toNat + 1 by omega]; rw [z_wt_s, ← ha, ← hsw, ← hkw]; first | rw [if_pos (by omega)] | rw [if_neg (by omega)]) (by rw [show (j + 1).toNat = j.toNat + 1 by omega]; exact hp2.2.1) (fun i hi => by rw [hp2.2.2 i (Or.inl hi), hck9.2.1 i (Or.inl hi)]; exact hfr i hi) (by omega)
        · skip
          refine z_iconst C 0 dX7_wrongWith_60 ?_
          refine z_goto C 65 dX7_wrongWith_61 (by decide) ?_
          refine z_iadd C dX7_wrongWith_65 ?_
          refine z_istore_n C [(2, .int (z_I (a + 0))), (4, .int (z_I ri2)), (3, .int (z_I j)), (0, .ref hM), (1, .int (z_I g))] dX7_wrongWith_66 (by decide) rfl ?_
          refine z_iinc C 2 [(3, .int (z_I (j + 1))), (2, .int (z_I (a + 0))), (4, .int (z_I ri2)), (0, .ref hM), (1, .int (z_I g))] dX7_wrongWith_67 rfl (by decide) rfl ?_
          refine z_goto C 11 dX7_wrongWith_70 (by decide) ?_
          refine z_lsub [(3, .int (z_I (j + 1))), (2, .int (z_I (a + 0))), (0, .ref hM), (1, .int (z_I g))] [0, 1, 3, 4] rfl ?_
          exact ih11 (j + 1) (a + 0) u2 (by first | assumption | omega) (by rw [show (j + 1).toNat = j.toNat + 1 by omega]; rw [z_wt_s, ← ha, ← hsw, ← hkw]; first | rw [if_pos (by omega)] | rw [if_neg (by omega)]) (by rw [show (j + 1).toNat = j.toNat + 1 by omega]; exact hp2.2.1) (fun i hi => by rw [hp2.2.2 i (Or.inl hi), hck9.2.1 i (Or.inl hi)]; exact hfr i hi) (by omega)
  exact loop11 ((z_p2 ct.1.2.1).toNat + 1) 0 0 u1 (by first | assumption | omega) rfl hp1.1 (fun i hi => hp1.2 i (Or.inl hi)) (by omega)
theorem zd_X7_wrong : yX7_wrong.cls ≠ "java/lang/invoke/MethodHandle" ∧ yX7_wrong.cls ≠ "java/lang/invoke/VarHandle" ∧ (parseMethodDescriptor yX7_wrong.desc).map (fun d => d.parameters.length) = some 1 := by decide +kernel
set_option maxHeartbeats 4000000 in
set_option maxRecDepth 100000 in
theorem c_X7_wrong (l : Launch) (D : va_G) (cI cZ cO : ClassId) (hM aS aPa aSl aSv aPd : Nat) (kn ln : Int) (f : Int → Int) (ct : z_Ct) (g : Int) (hrel : z_rel ct 0 f) (hok : z_ok ct) (htt : ct.1.1 ≤ 9999) (hg : -2147483648 ≤ g ∧ g < 2147483648) : z_Ei (Int → Int) l yX7_wrong wsX7_wrong 6 141 D (z_T cI cZ cO) [.ref hM, .int (z_I g)] ([(hM, .inr (7, [.ref aS, .ref aPa, .int (z_I kn), .ref aSl, .ref aSv, .ref aPd, .int (z_I ln)])), (aS, z_ai cI 712 f)]) (fun u => [(hM, .inr (7, [.ref aS, .ref aPa, .int (z_I kn), .ref aSl, .ref aSv, .ref aPd, .int (z_I ln)])), (aS, z_ai cI 712 u)]) (fun ri u => ri = (if 1 ≤ g ∧ g ≤ 50 then z_wc ct.1.2.1 ct.1.2.2.2.2.1 g else -2) ∧ z_rel ct 0 u) := by
  refine z_Ei_of (cc := cX7_wrong) (nL := 2) (ret := (some .int)) (by decide +kernel) rfl (Nat.le_of_ble_eq_true rfl) ?_
  intro p e s m args below meth c A Q C hQ
  change z_V p l e { frames := 6, cells := 0, slots := 0, locals := 141 } s m args below meth c D A 2 0 0 Q ([(hM, .inr (7, [.ref aS, .ref aPa, .int (z_I kn), .ref aSl, .ref aSv, .ref aPd, .int (z_I ln)])), (aS, z_ai cI 712 f)]) 0 [(0, .ref hM), (1, .int (z_I g))] []
  obtain ⟨hw, hrd, hsg, hho, hck, hlc, hld, hlw, hrl0⟩ := id hok
  obtain ⟨ht0, hst, hsh, hdl, hdu, hdn, hB, htot, hbit, hzero, how⟩ := id hw
  obtain ⟨hrn, hrr, hla⟩ := id hrd
  obtain ⟨hsn, hrk, hfo, hcnt, hinj, hsur⟩ := id hsg
  have hp := z_p2_le (k := ct.1.2.1) (by omega)
  obtain ⟨y0, y1, y2, y3, y4, y5, y6, y7, y8⟩ := hrel.1
  simp only [Int.zero_add] at y1 y2 y3 y4 y5 y6 y7 y8
  refine z_iload_n C 1 dX7_wrong_0 rfl ?_
  refine z_iconst C 1 dX7_wrong_1 ?_
  refine z_bipush C 50 dX7_wrong_2 (by decide) ?_
  refine z_callSi C [] [(hM, .inr (7, [.ref aS, .ref aPa, .int (z_I kn), .ref aSl, .ref aSv, .ref aPd, .int (z_I ln)])), (aS, z_ai cI 712 f)] [.int (z_I g), .int (z_I 1), .int (z_I 50)] [] (c_X7_in l D cI cZ cO g 1 50 (by first | assumption | omega) (by first | assumption | omega) (by first | assumption | omega)) gX7_wrong_X7_in rfl zd_X7_in rfl (by decide) rfl (by decide) rfl rfl rfl (Nat.le_of_ble_eq_true rfl) (by decide) dX7_wrong_4 ?_
  refine z_if_ne C 13 dX7_wrong_7 (by decide) (by omega) (fun hc1 => ?_) (fun hc1 => ?_)
  · skip
    have hz := z_if1.mp hc1
    refine z_aload_n C 0 dX7_wrong_13 rfl ?_
    refine z_callEv C [0, 1] (fun u1 => [(hM, .inr (7, [.ref aS, .ref aPa, .int (z_I kn), .ref aSl, .ref aSv, .ref aPd, .int (z_I ln)])), (aS, z_ai cI 712 u1)]) [] [] (c_X7_copies l D cI cZ cO hM aS aPa aSl aSv aPd kn ln f ) gX7_wrong_X7_copies rfl zd_X7_copies rfl (by decide) rfl rfl rfl (by decide) (fun _ => rfl) (fun _ => rfl) rfl (Nat.le_of_ble_eq_true rfl) (by decide) dX7_wrong_14 (fun u1 hp1 => ?_)
    have hcp := z_cop hrel hok hp1
    refine z_aload_n C 0 dX7_wrong_17 rfl ?_
    refine z_iload_n C 1 dX7_wrong_18 rfl ?_
    refine z_callEi C [0, 1] (fun u2 => [(hM, .inr (7, [.ref aS, .ref aPa, .int (z_I kn), .ref aSl, .ref aSv, .ref aPd, .int (z_I ln)])), (aS, z_ai cI 712 u2.1)]) [.int (z_I g)] [] (c_X7_wrongWith l D cI cZ cO hM aS aPa aSl aSv aPd kn ln u1 ct g hcp.1 hok (by omega) (by omega)) gX7_wrong_X7_wrongWith rfl zd_X7_wrongWith rfl (by decide) rfl rfl rfl (by decide) (fun _ => rfl) (fun _ => rfl) rfl (Nat.le_of_ble_eq_true rfl) (by decide) dX7_wrong_19 (fun u2 ri2 hp2 => ?_)
    exact z_irete C hQ u2.1 rfl ⟨by rw [if_pos (by omega)]; exact hp2.1, z_rel_fr hrel hok (fun i hi => by rw [hp2.2.2.2.2.2.2 i hi]; exact hcp.2 i hi)⟩ dX7_wrong_22
  · skip
    have hz := z_if0.mp (by omega)
    refine z_bipush C (-2) dX7_wrong_10 (by decide) ?_
    exact z_irete C hQ f rfl ⟨by rw [if_neg (by omega)], hrel⟩ dX7_wrong_12
theorem zd_X7_safe : yX7_safe.cls ≠ "java/lang/invoke/MethodHandle" ∧ yX7_safe.cls ≠ "java/lang/invoke/VarHandle" ∧ (parseMethodDescriptor yX7_safe.desc).map (fun d => d.parameters.length) = some 0 := by decide +kernel
set_option maxHeartbeats 4000000 in
set_option maxRecDepth 100000 in
theorem c_X7_safe (l : Launch) (D : va_G) (cI cZ cO : ClassId) (hM aS aPa aSl aSv aPd : Nat) (kn ln : Int) (f : Int → Int) (ct : z_Ct) (hrel : z_rel ct 356 f) (hok : z_ok ct) (htt : ct.1.1 ≤ 10000) : z_Ei (Int → Int) l yX7_safe wsX7_safe 6 141 D (z_T cI cZ cO) [.ref hM] ([(hM, .inr (7, [.ref aS, .ref aPa, .int (z_I kn), .ref aSl, .ref aSv, .ref aPd, .int (z_I ln)])), (aS, z_ai cI 712 f)]) (fun u => [(hM, .inr (7, [.ref aS, .ref aPa, .int (z_I kn), .ref aSl, .ref aSv, .ref aPd, .int (z_I ln)])), (aS, z_ai cI 712 u)]) (fun ri u => ri = z_sf ct.1.2.1 ct.1.2.2.2.2.1 ∧ ∀ i : Int, i < 356 → u i = f i) := by
  refine z_Ei_of (cc := cX7_safe) (nL := 2) (ret := (some .int)) (by decide +kernel) rfl (Nat.le_of_ble_eq_true rfl) ?_
  intro p e s m args below meth c A Q C hQ
  change z_V p l e { frames := 6, cells := 0, slots := 0, locals := 141 } s m args below meth c D A 2 0 0 Q ([(hM, .inr (7, [.ref aS, .ref aPa, .int (z_I kn), .ref aSl, .ref aSv, .ref aPd, .int (z_I ln)])), (aS, z_ai cI 712 f)]) 0 [(0, .ref hM)] []
  obtain ⟨hw, hrd, hsg, hho, hck, hlc, hld, hlw, hrl0⟩ := id hok
  obtain ⟨ht0, hst, hsh, hdl, hdu, hdn, hB, htot, hbit, hzero, how⟩ := id hw
  obtain ⟨hrn, hrr, hla⟩ := id hrd
  obtain ⟨hsn, hrk, hfo, hcnt, hinj, hsur⟩ := id hsg
  have hp := z_p2_le (k := ct.1.2.1) (by omega)
  have hth := z_th_rng hst hdl
  refine z_bipush C 51 dX7_safe_0 (by decide) ?_
  refine z_istore_n C [(1, .int (z_I 51)), (0, .ref hM)] dX7_safe_2 (by decide) rfl ?_
  have loop3 : ∀ (zn : Nat) (a : Int) (q : z_Ct) (h : Int → Int), 1 ≤ a ∧ a ≤ 51 → z_rel q 356 h → z_ok q → q.1.2.1 = ct.1.2.1 → q.1.2.2.2.2.1 = ct.1.2.2.2.2.1 → q.1.1 ≤ ct.1.1 + 1600 * (51 - a) → (∀ g : Int, a ≤ g → g ≤ 50 → z_it (fun j a => a + ct.1.2.2.2.2.1 j) 0 ct.1.2.1.toNat < g) → (∀ i : Int, i < 356 → h i = f i) → (a - 0) < (zn : Int) → z_V p l e { frames := 6, cells := 0, slots := 0, locals := 141 } s m args below meth c D A 2 0 0 Q [(hM, .inr (7, [.ref aS, .ref aPa, .int (z_I kn), .ref aSl, .ref aSv, .ref aPd, .int (z_I ln)])), (aS, z_ai cI 712 h)] 3 [(1, .int (z_I a)), (0, .ref hM)] [] := by
    intro zn
    induction zn with
    | zero => intro a q h hj hqr hqo hqs hqd hqt hal hfr hm3; exact absurd hm3 (by omega)
    | succ zn3 ih3 =>
      intro a q h hj hqr hqo hqs hqd hqt hal hfr hm3
      refine z_iload_n C 0 dX7_safe_3 rfl ?_
      refine z_iconst C 1 dX7_safe_4 ?_
      refine z_icmp_le C 24 dX7_safe_5 (by decide) (by omega) (by omega) (fun hc1 => ?_) (fun hc1 => ?_)
      · skip
        have h9 := hal 1 (by omega) (by omega)
        refine z_iload_n C 0 dX7_safe_24 rfl ?_
        exact z_irete C hQ h rfl (by first | (exfalso; omega) | exact ⟨by unfold z_sf; by_cases h7 : 50 < z_it (fun j a => a + ct.1.2.2.2.2.1 j) 0 ct.1.2.1.toNat; (· rw [if_pos h7]; by_cases h6 : a = 51; (· omega); (· have h5 := hal a (by omega) (by omega); omega)); (· rw [if_neg h7]; by_cases h6 : a = 51; (· omega); (· have h5 := hal a (by omega) (by omega); omega)), fun i hi => by rw [hp1.2.2.2.2.2.2 i hi]; exact hfr i hi⟩) dX7_safe_25
      · skip
        refine z_aload_n C 1 dX7_safe_8 rfl ?_
        refine z_iload_n C 0 dX7_safe_9 rfl ?_
        refine z_iconst C 1 dX7_safe_10 ?_
        refine z_isub C dX7_safe_11 ?_
        refine z_callEi C [0, 1] (fun u1 => [(hM, .inr (7, [.ref aS, .ref aPa, .int (z_I kn), .ref aSl, .ref aSv, .ref aPd, .int (z_I ln)])), (aS, z_ai cI 712 u1.1)]) [.int (z_I (a - 1))] [] (c_X7_wrongWith l D cI cZ cO hM aS aPa aSl aSv aPd kn ln h q (a - 1) hqr hqo (by omega) (by omega)) gX7_safe_X7_wrongWith rfl zd_X7_wrongWith rfl (by decide) rfl rfl rfl (by decide) (fun _ => rfl) (fun _ => rfl) rfl (Nat.le_of_ble_eq_true rfl) (by decide) dX7_safe_12 (fun u1 ri1 hp1 => ?_)
        have hri := hp1.1
        rw [hqs, hqd] at hri
        have hwr := z_wc_rng (g := a - 1) (dl := ct.1.2.2.2.2.1) hst
        have hth2 := z_wc_0 (g := a - 1) hst hdl (by omega)
        refine z_if_ne C 24 dX7_safe_15 (by decide) (by rw [hri]; omega) (fun hc2 => ?_) (fun hc2 => ?_)
        · skip
          have hz9 : ¬ (z_it (fun j a => a + ct.1.2.2.2.2.1 j) 0 ct.1.2.1.toNat < a - 1) := fun h8 => by have h7 := hth2.mpr h8; omega
          refine z_iload_n C 0 dX7_safe_24 rfl ?_
          exact z_irete C hQ u1.1 rfl (by first | (exfalso; omega) | exact ⟨by unfold z_sf; by_cases h7 : 50 < z_it (fun j a => a + ct.1.2.2.2.2.1 j) 0 ct.1.2.1.toNat; (· rw [if_pos h7]; by_cases h6 : a = 51; (· omega); (· have h5 := hal a (by omega) (by omega); omega)); (· rw [if_neg h7]; by_cases h6 : a = 51; (· omega); (· have h5 := hal a (by omega) (by omega); omega)), fun i hi => by rw [hp1.2.2.2.2.2.2 i hi]; exact hfr i hi⟩) dX7_safe_25
        · skip
          have hz9 : z_wc ct.1.2.1 ct.1.2.2.2.2.1 (a - 1) = 0 := by omega
          refine z_iinc C 0 [(1, .int (z_I (a + (-1)))), (0, .ref hM)] dX7_safe_18 rfl (by decide) rfl ?_
          refine z_goto C 3 dX7_safe_21 (by decide) ?_
          exact ih3 (a + (-1)) u1.2 u1.1 (by first | assumption | omega) hp1.2.1 hp1.2.2.1 (by rw [hp1.2.2.2.1]; exact hqs) (by rw [hp1.2.2.2.2.1]; exact hqd) (by have h9 := hp1.2.2.2.2.2.1; omega) (fun g g1 g2 => by by_cases h9 : g = a - 1; (· rw [h9]; exact hth2.mp hz9); (· exact hal g (by omega) g2)) (fun i hi => by rw [hp1.2.2.2.2.2.2 i hi]; exact hfr i hi) (by omega)
  exact loop3 52 51 ct f (by first | assumption | omega) hrel hok rfl rfl (by first | assumption | omega) (fun g g1 g2 => absurd g1 (by omega)) (fun i hi => rfl) (by omega)
theorem zd_X7_safeGap : yX7_safeGap.cls ≠ "java/lang/invoke/MethodHandle" ∧ yX7_safeGap.cls ≠ "java/lang/invoke/VarHandle" ∧ (parseMethodDescriptor yX7_safeGap.desc).map (fun d => d.parameters.length) = some 0 := by decide +kernel
set_option maxHeartbeats 4000000 in
set_option maxRecDepth 100000 in
theorem c_X7_safeGap (l : Launch) (D : va_G) (cI cZ cO : ClassId) (hM aS aPa aSl aSv aPd : Nat) (kn ln : Int) (f : Int → Int) (ct : z_Ct) (hrel : z_rel ct 0 f) (hok : z_ok ct) (htt : ct.1.1 ≤ 9999) : z_Ei (Int → Int) l yX7_safeGap wsX7_safeGap 7 162 D (z_T cI cZ cO) [.ref hM] ([(hM, .inr (7, [.ref aS, .ref aPa, .int (z_I kn), .ref aSl, .ref aSv, .ref aPd, .int (z_I ln)])), (aS, z_ai cI 712 f)]) (fun u => [(hM, .inr (7, [.ref aS, .ref aPa, .int (z_I kn), .ref aSl, .ref aSv, .ref aPd, .int (z_I ln)])), (aS, z_ai cI 712 u)]) (fun ri u => ri = (if (if 50 < (z_it (fun j a => a + ct.1.2.2.2.2.1 j) 0 ct.1.2.1.toNat) then 50 else (z_it (fun j a => a + ct.1.2.2.2.2.1 j) 0 ct.1.2.1.toNat)) + 1 ≤ 50 then (if 50 < (z_it (fun j a => a + ct.1.2.2.2.2.1 j) 0 ct.1.2.1.toNat) then 50 else (z_it (fun j a => a + ct.1.2.2.2.2.1 j) 0 ct.1.2.1.toNat)) + 1 else -6) ∧ z_rel ct 0 u) := by
  refine z_Ei_of (cc := cX7_safeGap) (nL := 2) (ret := (some .int)) (by decide +kernel) rfl (Nat.le_of_ble_eq_true rfl) ?_
  intro p e s m args below meth c A Q C hQ
  change z_V p l e { frames := 7, cells := 0, slots := 0, locals := 162 } s m args below meth c D A 2 0 0 Q ([(hM, .inr (7, [.ref aS, .ref aPa, .int (z_I kn), .ref aSl, .ref aSv, .ref aPd, .int (z_I ln)])), (aS, z_ai cI 712 f)]) 0 [(0, .ref hM)] []
  obtain ⟨hw, hrd, hsg, hho, hck, hlc, hld, hlw, hrl0⟩ := id hok
  obtain ⟨ht0, hst, hsh, hdl, hdu, hdn, hB, htot, hbit, hzero, how⟩ := id hw
  obtain ⟨hrn, hrr, hla⟩ := id hrd
  obtain ⟨hsn, hrk, hfo, hcnt, hinj, hsur⟩ := id hsg
  have hp := z_p2_le (k := ct.1.2.1) (by omega)
  obtain ⟨y0, y1, y2, y3, y4, y5, y6, y7, y8⟩ := hrel.1
  simp only [Int.zero_add] at y1 y2 y3 y4 y5 y6 y7 y8
  have hth := z_th_rng hst hdl
  have hsf : z_sf ct.1.2.1 ct.1.2.2.2.2.1 = (if 50 < z_it (fun j a => a + ct.1.2.2.2.2.1 j) 0 ct.1.2.1.toNat then 50 else z_it (fun j a => a + ct.1.2.2.2.2.1 j) 0 ct.1.2.1.toNat) + 1 := rfl
  have hmn : (if 50 < z_it (fun j a => a + ct.1.2.2.2.2.1 j) 0 ct.1.2.1.toNat then 50 else z_it (fun j a => a + ct.1.2.2.2.2.1 j) 0 ct.1.2.1.toNat) ≤ 50 ∧ 0 ≤ (if 50 < z_it (fun j a => a + ct.1.2.2.2.2.1 j) 0 ct.1.2.1.toNat then 50 else z_it (fun j a => a + ct.1.2.2.2.2.1 j) 0 ct.1.2.1.toNat) := by split <;> omega
  refine z_aload_n C 0 dX7_safeGap_0 rfl ?_
  refine z_callEv C [0, 1] (fun u1 => [(hM, .inr (7, [.ref aS, .ref aPa, .int (z_I kn), .ref aSl, .ref aSv, .ref aPd, .int (z_I ln)])), (aS, z_ai cI 712 u1)]) [] [] (c_X7_copies l D cI cZ cO hM aS aPa aSl aSv aPd kn ln f ) gX7_safeGap_X7_copies rfl zd_X7_copies rfl (by decide) rfl rfl rfl (by decide) (fun _ => rfl) (fun _ => rfl) rfl (Nat.le_of_ble_eq_true rfl) (by decide) dX7_safeGap_1 (fun u1 hp1 => ?_)
  have hcp := z_cop hrel hok hp1
  refine z_aload_n C 0 dX7_safeGap_4 rfl ?_
  refine z_callEi C [0, 1] (fun u2 => [(hM, .inr (7, [.ref aS, .ref aPa, .int (z_I kn), .ref aSl, .ref aSv, .ref aPd, .int (z_I ln)])), (aS, z_ai cI 712 u2)]) [] [] (c_X7_safe l D cI cZ cO hM aS aPa aSl aSv aPd kn ln u1 ct hcp.1 hok (by omega)) gX7_safeGap_X7_safe rfl zd_X7_safe rfl (by decide) rfl rfl rfl (by decide) (fun _ => rfl) (fun _ => rfl) rfl (Nat.le_of_ble_eq_true rfl) (by decide) dX7_safeGap_5 (fun u2 ri2 hp2 => ?_)
  have hri := hp2.1
  refine z_istore_n C [(1, .int (z_I ri2)), (0, .ref hM)] dX7_safeGap_8 (by decide) rfl ?_
  refine z_iload_n C 0 dX7_safeGap_9 rfl ?_
  refine z_bipush C 50 dX7_safeGap_10 (by decide) ?_
  refine z_icmp_le C 20 dX7_safeGap_12 (by decide) (by rw [hri, hsf]; omega) (by omega) (fun hc1 => ?_) (fun hc1 => ?_)
  · skip
    rw [hri, hsf] at hc1
    refine z_iload_n C 0 dX7_safeGap_20 rfl ?_
    exact z_irete C hQ u2 rfl ⟨by first | (rw [hri, hsf, if_pos (show (if 50 < z_it (fun j a => a + ct.1.2.2.2.2.1 j) 0 ct.1.2.1.toNat then 50 else z_it (fun j a => a + ct.1.2.2.2.2.1 j) 0 ct.1.2.1.toNat) + 1 ≤ 50 by omega)]; done) | (rw [if_neg (show ¬ (if 50 < z_it (fun j a => a + ct.1.2.2.2.2.1 j) 0 ct.1.2.1.toNat then 50 else z_it (fun j a => a + ct.1.2.2.2.2.1 j) 0 ct.1.2.1.toNat) + 1 ≤ 50 by omega)]; done), z_rel_fr hrel hok (fun i hi => by rw [hp2.2 i hi]; exact hcp.2 i hi)⟩ dX7_safeGap_21
  · skip
    rw [hri, hsf] at hc1
    refine z_bipush C (-6) dX7_safeGap_15 (by decide) ?_
    refine z_goto C 21 dX7_safeGap_17 (by decide) ?_
    exact z_irete C hQ u2 rfl ⟨by first | (rw [hri, hsf, if_pos (show (if 50 < z_it (fun j a => a + ct.1.2.2.2.2.1 j) 0 ct.1.2.1.toNat then 50 else z_it (fun j a => a + ct.1.2.2.2.2.1 j) 0 ct.1.2.1.toNat) + 1 ≤ 50 by omega)]; done) | (rw [if_neg (show ¬ (if 50 < z_it (fun j a => a + ct.1.2.2.2.2.1 j) 0 ct.1.2.1.toNat then 50 else z_it (fun j a => a + ct.1.2.2.2.2.1 j) 0 ct.1.2.1.toNat) + 1 ≤ 50 by omega)]; done), z_rel_fr hrel hok (fun i hi => by rw [hp2.2 i hi]; exact hcp.2 i hi)⟩ dX7_safeGap_21
theorem zi_X7_toBlame_X7 : ∀ w ∈ u_ws RX7 TX7 7, w ∈ wsX7_toBlame := by decide +kernel
theorem zl_X7_toBlame_7 : Cond.fieldLink RX7 7 "RippleCountsModel" "s" "[I" ∈ wsX7_toBlame := by decide +kernel
theorem zd_X7_toBlame : yX7_toBlame.cls ≠ "java/lang/invoke/MethodHandle" ∧ yX7_toBlame.cls ≠ "java/lang/invoke/VarHandle" ∧ (parseMethodDescriptor yX7_toBlame.desc).map (fun d => d.parameters.length) = some 1 := by decide +kernel
set_option maxHeartbeats 4000000 in
set_option maxRecDepth 100000 in
theorem c_X7_toBlame (l : Launch) (D : va_G) (cI cZ cO : ClassId) (hM aS aPa aSl aSv aPd : Nat) (kn ln : Int) (f : Int → Int) (ct : z_Ct) (w : Int) (hrel : z_rel ct 0 f) (hok : z_ok ct) (htt : ct.1.1 ≤ 9999) (hww : -2147483648 ≤ w ∧ w < 2147483648) : z_Ei (Int → Int) l yX7_toBlame wsX7_toBlame 7 162 D (z_T cI cZ cO) [.ref hM, .int (z_I w)] ([(hM, .inr (7, [.ref aS, .ref aPa, .int (z_I kn), .ref aSl, .ref aSv, .ref aPd, .int (z_I ln)])), (aS, z_ai cI 712 f)]) (fun u => [(hM, .inr (7, [.ref aS, .ref aPa, .int (z_I kn), .ref aSl, .ref aSv, .ref aPd, .int (z_I ln)])), (aS, z_ai cI 712 u)]) (fun ri u => ri = (if w = 0 then (z_tb ct.1.2.1 ct.1.2.2.2.2.1).1 else if w = 1 then (z_tb ct.1.2.1 ct.1.2.2.2.2.1).2 else -2) ∧ z_rel ct 0 u) := by
  refine z_Ei_of (cc := cX7_toBlame) (nL := 6) (ret := (some .int)) (by decide +kernel) rfl (Nat.le_of_ble_eq_true rfl) ?_
  intro p e s m args below meth c A Q C hQ
  change z_V p l e { frames := 7, cells := 0, slots := 0, locals := 162 } s m args below meth c D A 6 0 0 Q ([(hM, .inr (7, [.ref aS, .ref aPa, .int (z_I kn), .ref aSl, .ref aSv, .ref aPd, .int (z_I ln)])), (aS, z_ai cI 712 f)]) 0 [(0, .ref hM), (1, .int (z_I w))] []
  obtain ⟨hw, hrd, hsg, hho, hck, hlc, hld, hlw, hrl0⟩ := id hok
  obtain ⟨ht0, hst, hsh, hdl, hdu, hdn, hB, htot, hbit, hzero, how⟩ := id hw
  obtain ⟨hrn, hrr, hla⟩ := id hrd
  obtain ⟨hsn, hrk, hfo, hcnt, hinj, hsur⟩ := id hsg
  have hp := z_p2_le (k := ct.1.2.1) (by omega)
  obtain ⟨y0, y1, y2, y3, y4, y5, y6, y7, y8⟩ := hrel.1
  simp only [Int.zero_add] at y1 y2 y3 y4 y5 y6 y7 y8
  have hg0 := z_gif_rng (k := 0) hst hdl (by omega)
  refine z_iload_n C 1 dX7_toBlame_0 rfl ?_
  refine z_iconst C 0 dX7_toBlame_1 ?_
  refine z_iconst C 1 dX7_toBlame_2 ?_
  refine z_callSi C [] [(hM, .inr (7, [.ref aS, .ref aPa, .int (z_I kn), .ref aSl, .ref aSv, .ref aPd, .int (z_I ln)])), (aS, z_ai cI 712 f)] [.int (z_I w), .int (z_I 0), .int (z_I 1)] [] (c_X7_in l D cI cZ cO w 0 1 (by first | assumption | omega) (by first | assumption | omega) (by first | assumption | omega)) gX7_toBlame_X7_in rfl zd_X7_in rfl (by decide) rfl (by decide) rfl rfl rfl (Nat.le_of_ble_eq_true rfl) (by decide) dX7_toBlame_3 ?_
  refine z_if_ne C 12 dX7_toBlame_6 (by decide) (by omega) (fun hc1 => ?_) (fun hc1 => ?_)
  · skip
    have hz := z_if1.mp hc1
    refine z_iconst C 0 dX7_toBlame_12 ?_
    refine z_istore_n C [(2, .int (z_I 0)), (0, .ref hM), (1, .int (z_I w))] dX7_toBlame_13 (by decide) rfl ?_
    refine z_bipush C 52 dX7_toBlame_14 (by decide) ?_
    refine z_istore_n C [(3, .int (z_I 52)), (2, .int (z_I 0)), (0, .ref hM), (1, .int (z_I w))] dX7_toBlame_16 (by decide) rfl ?_
    refine z_iconst C 0 dX7_toBlame_17 ?_
    refine z_istore C [(4, .int (z_I 0)), (3, .int (z_I 52)), (2, .int (z_I 0)), (0, .ref hM), (1, .int (z_I w))] dX7_toBlame_18 (by decide) rfl ?_
    have loop20 : ∀ (zn : Nat) (k : Int) (bl : Int) (le : Int) (h : Int → Int), 0 ≤ k ∧ k ≤ ct.1.2.1 → ((k = 0 ∧ bl = 0 ∧ le = 52) ∨ (1 ≤ k ∧ (bl, le) = z_it (fun j q => if z_gif ct.1.2.1 ct.1.2.2.2.2.1 (j + 1) < q.2 then (j + 1, z_gif ct.1.2.1 ct.1.2.2.2.2.1 (j + 1)) else q) (0, z_gif ct.1.2.1 ct.1.2.2.2.2.1 0) (k - 1).toNat)) → -1000 ≤ le ∧ le < 1000 → z_rel ct 0 h → (ct.1.2.1 - k) < (zn : Int) → z_V p l e { frames := 7, cells := 0, slots := 0, locals := 162 } s m args below meth c D A 6 0 0 Q [(hM, .inr (7, [.ref aS, .ref aPa, .int (z_I kn), .ref aSl, .ref aSv, .ref aPd, .int (z_I ln)])), (aS, z_ai cI 712 h)] 20 [(4, .int (z_I k)), (3, .int (z_I le)), (2, .int (z_I bl)), (0, .ref hM), (1, .int (z_I w))] [] := by
      intro zn
      induction zn with
      | zero => intro k bl le h hk hbl hle hh hm20; exact absurd hm20 (by omega)
      | succ zn20 ih20 =>
        intro k bl le h hk hbl hle hh hm20
        have hh0 := hh.1.1
        refine z_iload C 0 dX7_toBlame_20 rfl ?_
        refine z_aload_n C 3 dX7_toBlame_22 rfl ?_
        refine z_iconst C 0 dX7_toBlame_23 ?_
        refine z_callVi C [0, 1] [(hM, .inr (7, [.ref aS, .ref aPa, .int (z_I kn), .ref aSl, .ref aSv, .ref aPd, .int (z_I ln)])), (aS, z_ai cI 712 h)] [.int (z_I 0)] [.int (z_I k)] (c_X7_stages l D cI cZ cO hM aS aPa aSl aSv aPd kn ln h 0 (by first | assumption | omega)) gX7_toBlame_X7_stages rfl zd_X7_stages rfl (by decide) rfl rfl rfl (by decide) rfl rfl rfl (Nat.le_of_ble_eq_true rfl) (by decide) dX7_toBlame_24 ?_
        refine z_icmp_ge C 84 dX7_toBlame_27 (by decide) (by omega) (by omega) (fun hc2 => ?_) (fun hc2 => ?_)
        · skip
          have hke : k = ct.1.2.1 := by omega
          have hfin : z_tb ct.1.2.1 ct.1.2.2.2.2.1 = (bl, le) := by
            rcases hbl with h9 | h9
            · omega
            · rw [h9.2, hke]; rfl
          refine z_iload_n C 4 dX7_toBlame_84 rfl ?_
          refine z_if_ne C 92 dX7_toBlame_85 (by decide) (by omega) (fun hc3 => ?_) (fun hc3 => ?_)
          · skip
            refine z_iload_n C 1 dX7_toBlame_92 rfl ?_
            exact z_irete C hQ h rfl ⟨by rw [hfin]; first | (rw [if_pos (by omega)]; done) | (rw [if_neg (by omega), if_pos (by omega)]; done), hh⟩ dX7_toBlame_93
          · skip
            refine z_iload_n C 2 dX7_toBlame_88 rfl ?_
            refine z_goto C 93 dX7_toBlame_89 (by decide) ?_
            exact z_irete C hQ h rfl ⟨by rw [hfin]; first | (rw [if_pos (by omega)]; done) | (rw [if_neg (by omega), if_pos (by omega)]; done), hh⟩ dX7_toBlame_93
        · skip
          refine z_aload_n C 3 dX7_toBlame_30 rfl ?_
          refine z_callEv C [0, 1] (fun u1 => [(hM, .inr (7, [.ref aS, .ref aPa, .int (z_I kn), .ref aSl, .ref aSv, .ref aPd, .int (z_I ln)])), (aS, z_ai cI 712 u1)]) [] [] (c_X7_copies l D cI cZ cO hM aS aPa aSl aSv aPd kn ln h ) gX7_toBlame_X7_copies rfl zd_X7_copies rfl (by decide) rfl rfl rfl (by decide) (fun _ => rfl) (fun _ => rfl) rfl (Nat.le_of_ble_eq_true rfl) (by decide) dX7_toBlame_31 (fun u1 hp1 => ?_)
          have hcp := z_cop hh hok hp1
          have hdy := z_rl_dly (k := k) (v := 1) hcp.1 (by omega) hrn.1 hsn.1
          have hdo := z_ok_dl hok htt (k := k) (by omega)
          have hgk := z_gif_rng (k := k) hst hdl (by omega)
          refine z_aload_n C 3 dX7_toBlame_34 rfl ?_
          refine z_get C 0 0 zi_X7_toBlame_X7 rfl rfl (by decide) zl_X7_toBlame_7 rfl rfl dX7_toBlame_35 ?_
          refine z_sipush C 365 dX7_toBlame_38 (by decide) ?_
          refine z_iload C 0 dX7_toBlame_41 rfl ?_
          refine z_iadd C dX7_toBlame_43 ?_
          refine z_iconst C 1 dX7_toBlame_44 ?_
          refine z_iast C 1 0 ([(hM, .inr (7, [.ref aS, .ref aPa, .int (z_I kn), .ref aSl, .ref aSv, .ref aPd, .int (z_I ln)])), (aS, z_ai cI 712 (z_u u1 (365 + k) 1))]) rfl rfl (by decide) (by omega) rfl dX7_toBlame_45 ?_
          refine z_aload_n C 3 dX7_toBlame_46 rfl ?_
          refine z_callEi C [0, 1] (fun u2 => [(hM, .inr (7, [.ref aS, .ref aPa, .int (z_I kn), .ref aSl, .ref aSv, .ref aPd, .int (z_I ln)])), (aS, z_ai cI 712 u2)]) [] [] (c_X7_safe l D cI cZ cO hM aS aPa aSl aSv aPd kn ln (z_u u1 (365 + k) 1) ((ct.1.1, ct.1.2.1, ct.1.2.2.1, ct.1.2.2.2.1, z_u ct.1.2.2.2.2.1 k 1, ct.1.2.2.2.2.2.1, ct.1.2.2.2.2.2.2), ct.2.1, ct.2.2.1, ct.2.2.2.1, ct.2.2.2.2.1, ct.2.2.2.2.2.1, ct.2.2.2.2.2.2.1, ct.2.2.2.2.2.2.2) hdy hdo (by show ct.1.1 ≤ 10000; omega)) gX7_toBlame_X7_safe rfl zd_X7_safe rfl (by decide) rfl rfl rfl (by decide) (fun _ => rfl) (fun _ => rfl) rfl (Nat.le_of_ble_eq_true rfl) (by decide) dX7_toBlame_47 (fun u2 ri2 hp2 => ?_)
          have hrg : ri2 = z_gif ct.1.2.1 ct.1.2.2.2.2.1 k := by rw [hp2.1]; exact z_sf_gif (st := ct.1.2.1) (dl := ct.1.2.2.2.2.1) (by omega)
          refine z_istore C [(5, .int (z_I ri2)), (4, .int (z_I k)), (3, .int (z_I le)), (2, .int (z_I bl)), (0, .ref hM), (1, .int (z_I w))] dX7_toBlame_50 (by decide) rfl ?_
          refine z_iload C 0 dX7_toBlame_52 rfl ?_
          refine z_iload_n C 2 dX7_toBlame_54 rfl ?_
          refine z_icmp_ge C 63 dX7_toBlame_55 (by decide) (by omega) (by omega) (fun hc4 => ?_) (fun hc4 => ?_)
          · skip
            have hlt : ¬ ri2 < le := by omega
            refine z_iload_n C 3 dX7_toBlame_63 rfl ?_
            refine z_istore_n C [(2, .int (z_I bl)), (5, .int (z_I ri2)), (4, .int (z_I k)), (3, .int (z_I le)), (0, .ref hM), (1, .int (z_I w))] dX7_toBlame_64 (by decide) rfl ?_
            refine z_iload C 1 dX7_toBlame_65 rfl ?_
            refine z_iload_n C 3 dX7_toBlame_67 rfl ?_
            refine z_icmp_ge C 76 dX7_toBlame_68 (by decide) (by omega) (by omega) (fun hc5 => ?_) (fun hc5 => ?_)
            · first
              | (exfalso; omega)
              | skip
                refine z_iload_n C 3 dX7_toBlame_76 rfl ?_
                refine z_istore_n C [(3, .int (z_I le)), (2, .int (z_I bl)), (5, .int (z_I ri2)), (4, .int (z_I k)), (0, .ref hM), (1, .int (z_I w))] dX7_toBlame_77 (by decide) rfl ?_
                refine z_iinc C 3 [(4, .int (z_I (k + 1))), (3, .int (z_I le)), (2, .int (z_I bl)), (5, .int (z_I ri2)), (0, .ref hM), (1, .int (z_I w))] dX7_toBlame_78 rfl (by decide) rfl ?_
                refine z_goto C 20 dX7_toBlame_81 (by decide) ?_
                refine z_lsub [(4, .int (z_I (k + 1))), (3, .int (z_I le)), (2, .int (z_I bl)), (0, .ref hM), (1, .int (z_I w))] [0, 1, 2, 4, 5] rfl ?_
                exact ih20 (k + 1) bl le u2 (by first | assumption | omega) (Or.inr ⟨by omega, by rw [← z_tb_s hk.1 hbl hg0.2, ← hrg]; first | (rw [if_pos hlt, if_pos hlt]; done) | (rw [if_neg hlt, if_neg hlt]; done)⟩) (by first | assumption | omega) (z_rel_fr hh hok (fun i hi => by rw [hp2.2 i hi, z_u_ne (by omega)]; exact hcp.2 i hi)) (by omega)
            · first
              | (exfalso; omega)
              | skip
                refine z_iload C 1 dX7_toBlame_71 rfl ?_
                refine z_goto C 77 dX7_toBlame_73 (by decide) ?_
                refine z_istore_n C [(3, .int (z_I ri2)), (2, .int (z_I bl)), (5, .int (z_I ri2)), (4, .int (z_I k)), (0, .ref hM), (1, .int (z_I w))] dX7_toBlame_77 (by decide) rfl ?_
                refine z_iinc C 3 [(4, .int (z_I (k + 1))), (3, .int (z_I ri2)), (2, .int (z_I bl)), (5, .int (z_I ri2)), (0, .ref hM), (1, .int (z_I w))] dX7_toBlame_78 rfl (by decide) rfl ?_
                refine z_goto C 20 dX7_toBlame_81 (by decide) ?_
                refine z_lsub [(4, .int (z_I (k + 1))), (3, .int (z_I ri2)), (2, .int (z_I bl)), (0, .ref hM), (1, .int (z_I w))] [0, 1, 2, 4, 5] rfl ?_
                exact ih20 (k + 1) bl ri2 u2 (by first | assumption | omega) (Or.inr ⟨by omega, by rw [← z_tb_s hk.1 hbl hg0.2, ← hrg]; first | (rw [if_pos hlt, if_pos hlt]; done) | (rw [if_neg hlt, if_neg hlt]; done)⟩) (by first | assumption | omega) (z_rel_fr hh hok (fun i hi => by rw [hp2.2 i hi, z_u_ne (by omega)]; exact hcp.2 i hi)) (by omega)
          · skip
            have hlt : ri2 < le := by omega
            refine z_iload C 1 dX7_toBlame_58 rfl ?_
            refine z_goto C 64 dX7_toBlame_60 (by decide) ?_
            refine z_istore_n C [(2, .int (z_I k)), (5, .int (z_I ri2)), (4, .int (z_I k)), (3, .int (z_I le)), (0, .ref hM), (1, .int (z_I w))] dX7_toBlame_64 (by decide) rfl ?_
            refine z_iload C 1 dX7_toBlame_65 rfl ?_
            refine z_iload_n C 3 dX7_toBlame_67 rfl ?_
            refine z_icmp_ge C 76 dX7_toBlame_68 (by decide) (by omega) (by omega) (fun hc6 => ?_) (fun hc6 => ?_)
            · first
              | (exfalso; omega)
              | skip
                refine z_iload_n C 3 dX7_toBlame_76 rfl ?_
                refine z_istore_n C [(3, .int (z_I le)), (2, .int (z_I k)), (5, .int (z_I ri2)), (4, .int (z_I k)), (0, .ref hM), (1, .int (z_I w))] dX7_toBlame_77 (by decide) rfl ?_
                refine z_iinc C 3 [(4, .int (z_I (k + 1))), (3, .int (z_I le)), (2, .int (z_I k)), (5, .int (z_I ri2)), (0, .ref hM), (1, .int (z_I w))] dX7_toBlame_78 rfl (by decide) rfl ?_
                refine z_goto C 20 dX7_toBlame_81 (by decide) ?_
                refine z_lsub [(4, .int (z_I (k + 1))), (3, .int (z_I le)), (2, .int (z_I k)), (0, .ref hM), (1, .int (z_I w))] [0, 1, 2, 4, 5] rfl ?_
                exact ih20 (k + 1) k le u2 (by first | assumption | omega) (Or.inr ⟨by omega, by rw [← z_tb_s hk.1 hbl hg0.2, ← hrg]; first | (rw [if_pos hlt, if_pos hlt]; done) | (rw [if_neg hlt, if_neg hlt]; done)⟩) (by first | assumption | omega) (z_rel_fr hh hok (fun i hi => by rw [hp2.2 i hi, z_u_ne (by omega)]; exact hcp.2 i hi)) (by omega)
            · first
              | (exfalso; omega)
              | skip
                refine z_iload C 1 dX7_toBlame_71 rfl ?_
                refine z_goto C 77 dX7_toBlame_73 (by decide) ?_
                refine z_istore_n C [(3, .int (z_I ri2)), (2, .int (z_I k)), (5, .int (z_I ri2)), (4, .int (z_I k)), (0, .ref hM), (1, .int (z_I w))] dX7_toBlame_77 (by decide) rfl ?_
                refine z_iinc C 3 [(4, .int (z_I (k + 1))), (3, .int (z_I ri2)), (2, .int (z_I k)), (5, .int (z_I ri2)), (0, .ref hM), (1, .int (z_I w))] dX7_toBlame_78 rfl (by decide) rfl ?_
                refine z_goto C 20 dX7_toBlame_81 (by decide) ?_
                refine z_lsub [(4, .int (z_I (k + 1))), (3, .int (z_I ri2)), (2, .int (z_I k)), (0, .ref hM), (1, .int (z_I w))] [0, 1, 2, 4, 5] rfl ?_
                exact ih20 (k + 1) k ri2 u2 (by first | assumption | omega) (Or.inr ⟨by omega, by rw [← z_tb_s hk.1 hbl hg0.2, ← hrg]; first | (rw [if_pos hlt, if_pos hlt]; done) | (rw [if_neg hlt, if_neg hlt]; done)⟩) (by first | assumption | omega) (z_rel_fr hh hok (fun i hi => by rw [hp2.2 i hi, z_u_ne (by omega)]; exact hcp.2 i hi)) (by omega)
    exact loop20 (ct.1.2.1.toNat + 1) 0 0 52 f (by first | assumption | omega) (by first | assumption | omega) (by first | assumption | omega) hrel (by omega)
  · skip
    have hz := z_if0.mp (by omega)
    refine z_bipush C (-2) dX7_toBlame_9 (by decide) ?_
    exact z_irete C hQ f rfl ⟨by rw [if_neg (by omega), if_neg (by omega)], hrel⟩ dX7_toBlame_11
