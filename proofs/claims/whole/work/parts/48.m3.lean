theorem zi_X7_passesOne_X7 : ∀ w ∈ u_ws RX7 TX7 7, w ∈ wsX7_passesOne := by decide +kernel
theorem zl_X7_passesOne_7 : Cond.fieldLink RX7 7 "RippleCountsModel" "s" "[I" ∈ wsX7_passesOne := by decide +kernel
theorem zd_X7_passesOne : yX7_passesOne.cls ≠ "java/lang/invoke/MethodHandle" ∧ yX7_passesOne.cls ≠ "java/lang/invoke/VarHandle" ∧ (parseMethodDescriptor yX7_passesOne.desc).map (fun d => d.parameters.length) = some 1 := by decide +kernel
set_option maxHeartbeats 4000000 in
set_option maxRecDepth 100000 in
theorem c_X7_passesOne (l : Launch) (D : va_G) (cI cZ cO : ClassId) (hM aS aPa aSl aSv aPd : Nat) (kn ln : Int) (f : Int → Int) (b : Int) (ct : z_Ct) (hb : 0 ≤ b ∧ b ≤ 356) (hrel : z_rel ct b f) (hok : z_ok ct) (htt : ct.1.1 < 900000) : z_Ei (Int → Int) l yX7_passesOne wsX7_passesOne 3 69 D (z_T cI cZ cO) [.ref hM, .int (z_I b)] ([(hM, .inr (7, [.ref aS, .ref aPa, .int (z_I kn), .ref aSl, .ref aSv, .ref aPd, .int (z_I ln)])), (aS, z_ai cI 712 f)]) (fun u => [(hM, .inr (7, [.ref aS, .ref aPa, .int (z_I kn), .ref aSl, .ref aSv, .ref aPd, .int (z_I ln)])), (aS, z_ai cI 712 u)]) (fun ri u => ri = (z_tdR ct).1 ∧ z_rel (z_nano ct) b u ∧ z_fr b f u) := by
  refine z_Ei_of (cc := cX7_passesOne) (nL := 5) (ret := (some .int)) (by decide +kernel) rfl (Nat.le_of_ble_eq_true rfl) ?_
  intro p e s m args below meth c A Q C hQ
  change z_V p l e { frames := 3, cells := 0, slots := 0, locals := 69 } s m args below meth c D A 5 0 0 Q ([(hM, .inr (7, [.ref aS, .ref aPa, .int (z_I kn), .ref aSl, .ref aSv, .ref aPd, .int (z_I ln)])), (aS, z_ai cI 712 f)]) 0 [(0, .ref hM), (1, .int (z_I b))] []
  obtain ⟨hw, hrd, hsg, hho, hck, hlc, hld, hlw, hrl0⟩ := id hok
  obtain ⟨ht0, hst, hsh, hdl, hdu, hdn, hB, htot, hbit, hzero, how⟩ := id hw
  obtain ⟨hrn, hrr, hla⟩ := id hrd
  obtain ⟨hsn, hrk, hfo, hcnt, hinj, hsur⟩ := id hsg
  have hp := z_p2_le (k := ct.1.2.1) (by omega)
  refine z_iconst C 0 dX7_passesOne_0 ?_
  refine z_istore_n C [(2, .int (z_I 0)), (0, .ref hM), (1, .int (z_I b))] dX7_passesOne_1 (by decide) rfl ?_
  refine z_iconst C 0 dX7_passesOne_2 ?_
  refine z_istore_n C [(3, .int (z_I 0)), (2, .int (z_I 0)), (0, .ref hM), (1, .int (z_I b))] dX7_passesOne_3 (by decide) rfl ?_
  have loop4 : ∀ (zn : Nat) (k : Int) (r : z_R) (g : Int → Int), 0 ≤ k ∧ k ≤ ct.1.2.1 → r = z_it (z_tdS ct.1.1 ct.1.2.1 ct.1.2.2.2.2.1) (0, ct.1.2.2.1, ct.1.2.2.2.1, ct.1.2.2.2.2.2.1, ct.1.2.2.2.2.2.2) k.toNat → z_rl (z_cS ct r) (fun j x => ¬ x = 0 ∨ k ≤ j) (z_eS ct r) b g → z_fr b f g → (ct.1.2.1 - k) < (zn : Int) → z_V p l e { frames := 3, cells := 0, slots := 0, locals := 69 } s m args below meth c D A 5 0 0 Q [(hM, .inr (7, [.ref aS, .ref aPa, .int (z_I kn), .ref aSl, .ref aSv, .ref aPd, .int (z_I ln)])), (aS, z_ai cI 712 g)] 4 [(3, .int (z_I k)), (2, .int (z_I r.1)), (0, .ref hM), (1, .int (z_I b))] [] := by
    intro zn
    induction zn with
    | zero => intro k r g hk hr hgl hfr hm4; exact absurd hm4 (by omega)
    | succ zn4 ih4 =>
      intro k r g hk hr hgl hfr hm4
      have hT := z_td_I hw k hk.1 hk.2
      rw [← hr] at hT
      have hrw := hT.2
      have hrsh := hrw.2.2.1
      have hrdu := hrw.2.2.2.2.1
      have hrduB := z_wok_du hrw
      have hrz := hrw.2.2.2.2.2.2.2.2.2.1
      have hrow := hrw.2.2.2.2.2.2.2.2.2.2
      have hrowB := z_wok_ow hrw
      dsimp only at hrsh hrdu hrduB hrz hrow hrowB
      have hg0 : g b = ct.1.2.1 := hgl.1.1
      have hkB : k * (ct.2.2.2.2.2.1 + 1) ≤ 5 * (ct.2.2.2.2.2.1 + 1) := Int.mul_le_mul_of_nonneg_right (by omega) (by omega)
      refine z_iload_n C 0 dX7_passesOne_4 rfl ?_
      refine z_aload_n C 2 dX7_passesOne_5 rfl ?_
      refine z_iload_n C 3 dX7_passesOne_6 rfl ?_
      refine z_callVi C [0, 1] [(hM, .inr (7, [.ref aS, .ref aPa, .int (z_I kn), .ref aSl, .ref aSv, .ref aPd, .int (z_I ln)])), (aS, z_ai cI 712 g)] [.int (z_I b)] [.int (z_I k)] (c_X7_stages l D cI cZ cO hM aS aPa aSl aSv aPd kn ln g b (by first | assumption | omega)) gX7_passesOne_X7_stages rfl zd_X7_stages rfl (by decide) rfl rfl rfl (by decide) rfl rfl rfl (Nat.le_of_ble_eq_true rfl) (by decide) dX7_passesOne_7 ?_
      refine z_icmp_ge C 52 dX7_passesOne_10 (by decide) (by omega) (by rw [hg0]; omega) (fun hc1 => ?_) (fun hc1 => ?_)
      · skip
        have hke : k = ct.1.2.1 := by omega
        have hrR : z_tdR ct = r := by rw [hr, hke]; rfl
        rw [hke] at hgl
        have hg2t : g (b + 2) = ct.1.1 := hgl.1.2.2.1
        have hzz := z_td_zero hok
        rw [hrR] at hzz
        have hns := z_nsg_sn (ct := ct) (r := r) hsn.1
        have hnl := z_nld_rng (ct := ct) (r := r) hld ht0
        refine z_iload_n C 1 dX7_passesOne_52 rfl ?_
        refine z_if_le C 77 dX7_passesOne_53 (by decide) (by omega) (fun hc2 => ?_) (fun hc2 => ?_)
        · skip
          have hA : ¬ 0 < r.1 := by omega
          have hQ1 : z_rl ((ct.1.1, ct.1.2.1, r.2.1, ct.1.2.2.2.1, ct.1.2.2.2.2.1, r.2.2.2.1, ct.1.2.2.2.2.2.2), ct.2.1, (z_nsg ct r), ct.2.2.2.1, ct.2.2.2.2.1, ct.2.2.2.2.2.1, (z_nld ct r), ct.2.2.2.2.2.2.2) (fun j x => ¬ x = 0 ∨ ct.1.2.1 ≤ j) (z_eS ct r) b g := by rw [z_nsg_n hA, z_nld_n hA]; exact hgl
          have hfq := hfr
          refine z_iconst C 0 dX7_passesOne_77 ?_
          refine z_istore_n C [(3, .int (z_I 0)), (2, .int (z_I r.1)), (0, .ref hM), (1, .int (z_I b))] dX7_passesOne_78 (by decide) rfl ?_
          have loop79 : ∀ (zn : Nat) (kk : Int) (g2 : Int → Int), 0 ≤ kk ∧ kk ≤ 5 → z_rl ((ct.1.1, ct.1.2.1, r.2.1, ct.1.2.2.2.1, ct.1.2.2.2.2.1, r.2.2.2.1, ct.1.2.2.2.2.2.2), ct.2.1, (z_nsg ct r), ct.2.2.2.1, ct.2.2.2.2.1, ct.2.2.2.2.2.1, (z_nld ct r), ct.2.2.2.2.2.2.2) (z_pH ct kk 0) (z_eH ct r kk 0) b g2 → z_fr b f g2 → (5 - kk) < (zn : Int) → z_V p l e { frames := 3, cells := 0, slots := 0, locals := 69 } s m args below meth c D A 5 0 0 Q [(hM, .inr (7, [.ref aS, .ref aPa, .int (z_I kn), .ref aSl, .ref aSv, .ref aPd, .int (z_I ln)])), (aS, z_ai cI 712 g2)] 79 [(3, .int (z_I kk)), (2, .int (z_I r.1)), (0, .ref hM), (1, .int (z_I b))] [] := by
            intro zn
            induction zn with
            | zero => intro kk g2 hkk hg2l hfr3 hm79; exact absurd hm79 (by omega)
            | succ zn79 ih79 =>
              intro kk g2 hkk hg2l hfr3 hm79
              refine z_iload_n C 0 dX7_passesOne_79 rfl ?_
              refine z_iconst C 5 dX7_passesOne_80 ?_
              refine z_icmp_ge C 145 dX7_passesOne_81 (by decide) (by omega) (by omega) (fun hc3 => ?_) (fun hc3 => ?_)
              · skip
                have hk5 : kk = 5 := by omega
                rw [hk5] at hg2l
                have hX := z_rlH_e hg2l hzz
                have hx5 : g2 (b + 5) = z_nld ct r := hX.1.2.2.2.2.2.1
                have hx2 : g2 (b + 2) = ct.1.1 := hX.1.2.2.1
                have hx1 : g2 (b + 0 + 1) = ct.2.2.2.1 := by rw [show b + 0 + 1 = b + 1 by omega]; exact hX.1.2.1
                have hx6 : g2 (b + 6) = ct.2.2.2.2.2.2.2 := hX.1.2.2.2.2.2.2.1
                have hx0 : g2 b = ct.1.2.1 := hX.1.1
                have hall := z_allOn hX (by omega) hst hrz
                rw [← hrow] at hall
                refine z_aload_n C 2 dX7_passesOne_145 rfl ?_
                refine z_get C 0 0 zi_X7_passesOne_X7 rfl rfl (by decide) zl_X7_passesOne_7 rfl rfl dX7_passesOne_146 ?_
                refine z_iload_n C 3 dX7_passesOne_149 rfl ?_
                refine z_iconst C 5 dX7_passesOne_150 ?_
                refine z_iadd C dX7_passesOne_151 ?_
                refine z_iald C 1 0 rfl rfl (by decide) (by omega) dX7_passesOne_152 ?_
                refine z_if_lt C 186 dX7_passesOne_153 (by decide) (by omega) (fun hc4 => ?_) (fun hc4 => ?_)
                · skip
                  refine z_iconst C 1 dX7_passesOne_186 ?_
                  refine z_goto C 191 dX7_passesOne_187 (by decide) ?_
                  refine z_istore_n C [(3, .int (z_I 1)), (2, .int (z_I r.1)), (0, .ref hM), (1, .int (z_I b))] dX7_passesOne_191 (by decide) rfl ?_
                  refine z_aload_n C 2 dX7_passesOne_192 rfl ?_
                  refine z_get C 0 0 zi_X7_passesOne_X7 rfl rfl (by decide) zl_X7_passesOne_7 rfl rfl dX7_passesOne_193 ?_
                  refine z_iload_n C 3 dX7_passesOne_196 rfl ?_
                  refine z_bipush C 6 dX7_passesOne_197 (by decide) ?_
                  refine z_iadd C dX7_passesOne_199 ?_
                  refine z_iald C 1 0 rfl rfl (by decide) (by omega) dX7_passesOne_200 ?_
                  refine z_iconst C 1 dX7_passesOne_201 ?_
                  refine z_icmp_ne C 233 dX7_passesOne_202 (by decide) (by omega) (by omega) (fun hc5 => ?_) (fun hc5 => ?_)
                  · skip
                    have hcl : ¬ z_ncl ct r := fun q => q.1 (by omega)
                    have hfin := hX
                    have hfrF := hfr3
                    have hxt : g2 (b + 2) = ct.1.1 := hfin.1.2.2.1
                    refine z_aload_n C 2 dX7_passesOne_233 rfl ?_
                    refine z_get C 0 0 zi_X7_passesOne_X7 rfl rfl (by decide) zl_X7_passesOne_7 rfl rfl dX7_passesOne_234 ?_
                    refine z_iload_n C 3 dX7_passesOne_237 rfl ?_
                    refine z_iconst C 2 dX7_passesOne_238 ?_
                    refine z_iadd C dX7_passesOne_239 ?_
                    refine z_dup2 C dX7_passesOne_240 rfl rfl ?_
                    refine z_iald C 1 0 rfl rfl (by decide) (by omega) dX7_passesOne_241 ?_
                    refine z_iconst C 1 dX7_passesOne_242 ?_
                    refine z_iadd C dX7_passesOne_243 ?_
                    refine z_iast C 1 0 ([(hM, .inr (7, [.ref aS, .ref aPa, .int (z_I kn), .ref aSl, .ref aSv, .ref aPd, .int (z_I ln)])), (aS, z_ai cI 712 (z_u g2 (b + 2) ((g2 (b + 2)) + 1)))]) rfl rfl (by decide) (by omega) rfl dX7_passesOne_244 ?_
                    refine z_iload_n C 1 dX7_passesOne_245 rfl ?_
                    exact z_irete C hQ (z_u g2 (b + 2) ((g2 (b + 2)) + 1)) rfl ⟨by rw [hrR], by rw [show z_nano ct = z_nanoR ct r by rw [z_nano, hrR], hxt]; first | (rw [z_nanoR_c hcl]; exact z_rl_tm hfin (by show 0 ≤ ct.2.1.1 + 1; omega) hns) | (rw [z_nanoR_n hcl]; exact z_rl_tm hfin hrn.1 hns), fun j hj => by rw [z_u_ne (by omega)]; exact hfrF j hj⟩ dX7_passesOne_246
                  · skip
                    refine z_aload_n C 2 dX7_passesOne_205 rfl ?_
                    refine z_iload_n C 3 dX7_passesOne_206 rfl ?_
                    refine z_callVi C [0, 1] [(hM, .inr (7, [.ref aS, .ref aPa, .int (z_I kn), .ref aSl, .ref aSv, .ref aPd, .int (z_I ln)])), (aS, z_ai cI 712 g2)] [.int (z_I b)] [] (c_X7_allOnWay l D cI cZ cO hM aS aPa aSl aSv aPd kn ln g2 b (by first | assumption | omega) (by omega)) gX7_passesOne_X7_allOnWay rfl zd_X7_allOnWay rfl (by decide) rfl rfl rfl (by decide) rfl rfl rfl (Nat.le_of_ble_eq_true rfl) (by decide) dX7_passesOne_207 ?_
                    refine z_if_ne C 233 dX7_passesOne_210 (by decide) (by rw [hall]; omega) (fun hc6 => ?_) (fun hc6 => ?_)
                    · skip
                      have hcl : ¬ z_ncl ct r := fun q => hc6 (by rw [hall]; exact q.2.1)
                      have hfin := hX
                      have hfrF := hfr3
                      have hxt : g2 (b + 2) = ct.1.1 := hfin.1.2.2.1
                      refine z_aload_n C 2 dX7_passesOne_233 rfl ?_
                      refine z_get C 0 0 zi_X7_passesOne_X7 rfl rfl (by decide) zl_X7_passesOne_7 rfl rfl dX7_passesOne_234 ?_
                      refine z_iload_n C 3 dX7_passesOne_237 rfl ?_
                      refine z_iconst C 2 dX7_passesOne_238 ?_
                      refine z_iadd C dX7_passesOne_239 ?_
                      refine z_dup2 C dX7_passesOne_240 rfl rfl ?_
                      refine z_iald C 1 0 rfl rfl (by decide) (by omega) dX7_passesOne_241 ?_
                      refine z_iconst C 1 dX7_passesOne_242 ?_
                      refine z_iadd C dX7_passesOne_243 ?_
                      refine z_iast C 1 0 ([(hM, .inr (7, [.ref aS, .ref aPa, .int (z_I kn), .ref aSl, .ref aSv, .ref aPd, .int (z_I ln)])), (aS, z_ai cI 712 (z_u g2 (b + 2) ((g2 (b + 2)) + 1)))]) rfl rfl (by decide) (by omega) rfl dX7_passesOne_244 ?_
                      refine z_iload_n C 1 dX7_passesOne_245 rfl ?_
                      exact z_irete C hQ (z_u g2 (b + 2) ((g2 (b + 2)) + 1)) rfl ⟨by rw [hrR], by rw [show z_nano ct = z_nanoR ct r by rw [z_nano, hrR], hxt]; first | (rw [z_nanoR_c hcl]; exact z_rl_tm hfin (by show 0 ≤ ct.2.1.1 + 1; omega) hns) | (rw [z_nanoR_n hcl]; exact z_rl_tm hfin hrn.1 hns), fun j hj => by rw [z_u_ne (by omega)]; exact hfrF j hj⟩ dX7_passesOne_246
                    · skip
                      refine z_iload_n C 0 dX7_passesOne_213 rfl ?_
                      refine z_if_eq C 233 dX7_passesOne_214 (by decide) (by omega) (fun hc7 => ?_) (fun hc7 => ?_)
                      · first
                        | (exfalso; omega)
                        | skip
                          have hcl : ¬ z_ncl ct r := fun q => by have q2 := q.2.2; omega
                          have hfin := hX
                          have hfrF := hfr3
                          have hxt : g2 (b + 2) = ct.1.1 := hfin.1.2.2.1
                          refine z_aload_n C 2 dX7_passesOne_233 rfl ?_
                          refine z_get C 0 0 zi_X7_passesOne_X7 rfl rfl (by decide) zl_X7_passesOne_7 rfl rfl dX7_passesOne_234 ?_
                          refine z_iload_n C 3 dX7_passesOne_237 rfl ?_
                          refine z_iconst C 2 dX7_passesOne_238 ?_
                          refine z_iadd C dX7_passesOne_239 ?_
                          refine z_dup2 C dX7_passesOne_240 rfl rfl ?_
                          refine z_iald C 1 0 rfl rfl (by decide) (by omega) dX7_passesOne_241 ?_
                          refine z_iconst C 1 dX7_passesOne_242 ?_
                          refine z_iadd C dX7_passesOne_243 ?_
                          refine z_iast C 1 0 ([(hM, .inr (7, [.ref aS, .ref aPa, .int (z_I kn), .ref aSl, .ref aSv, .ref aPd, .int (z_I ln)])), (aS, z_ai cI 712 (z_u g2 (b + 2) ((g2 (b + 2)) + 1)))]) rfl rfl (by decide) (by omega) rfl dX7_passesOne_244 ?_
                          refine z_iload_n C 1 dX7_passesOne_245 rfl ?_
                          exact z_irete C hQ (z_u g2 (b + 2) ((g2 (b + 2)) + 1)) rfl ⟨by rw [hrR], by rw [show z_nano ct = z_nanoR ct r by rw [z_nano, hrR], hxt]; first | (rw [z_nanoR_c hcl]; exact z_rl_tm hfin (by show 0 ≤ ct.2.1.1 + 1; omega) hns) | (rw [z_nanoR_n hcl]; exact z_rl_tm hfin hrn.1 hns), fun j hj => by rw [z_u_ne (by omega)]; exact hfrF j hj⟩ dX7_passesOne_246
                      · first
                        | (exfalso; omega)
                        | skip
                          have hcl : z_ncl ct r := ⟨by omega, by rw [← hall]; omega, by omega⟩
                          refine z_aload_n C 2 dX7_passesOne_217 rfl ?_
                          refine z_get C 0 0 zi_X7_passesOne_X7 rfl rfl (by decide) zl_X7_passesOne_7 rfl rfl dX7_passesOne_218 ?_
                          refine z_iload_n C 3 dX7_passesOne_221 rfl ?_
                          refine z_bipush C 6 dX7_passesOne_222 (by decide) ?_
                          refine z_iadd C dX7_passesOne_224 ?_
                          refine z_iconst C 0 dX7_passesOne_225 ?_
                          refine z_iast C 1 0 ([(hM, .inr (7, [.ref aS, .ref aPa, .int (z_I kn), .ref aSl, .ref aSv, .ref aPd, .int (z_I ln)])), (aS, z_ai cI 712 (z_u g2 (b + 6) 0))]) rfl rfl (by decide) (by omega) rfl dX7_passesOne_226 ?_
                          refine z_aload_n C 2 dX7_passesOne_227 rfl ?_
                          refine z_iload_n C 3 dX7_passesOne_228 rfl ?_
                          refine z_iconst C 1 dX7_passesOne_229 ?_
                          refine z_callEv C [0, 1] (fun u2 => [(hM, .inr (7, [.ref aS, .ref aPa, .int (z_I kn), .ref aSl, .ref aSv, .ref aPd, .int (z_I ln)])), (aS, z_ai cI 712 u2)]) [.int (z_I b), .int (z_I 1)] [] (c_X7_reads l D cI cZ cO hM aS aPa aSl aSv aPd kn ln (z_u g2 (b + 6) 0) b ((ct.1.1, ct.1.2.1, r.2.1, ct.1.2.2.2.1, ct.1.2.2.2.2.1, r.2.2.2.1, ct.1.2.2.2.2.2.2), ct.2.1, (z_nsg ct r), ct.2.2.2.1, ct.2.2.2.2.1, ct.2.2.2.2.2.1, (z_nld ct r), 0) (fun _ _ => True) (fun j x => r.2.2.2.2 (j * 21 + (ct.1.1 + 1 + x) % 21)) 1 (by first | assumption | omega) (z_rl_lw hX hrn.1 hns) hst hrsh (by show 0 ≤ ct.2.1.1 ∧ ct.2.1.1 < 99; omega)) gX7_passesOne_X7_reads rfl zd_X7_reads rfl (by decide) rfl rfl rfl (by decide) (fun _ => rfl) (fun _ => rfl) rfl (Nat.le_of_ble_eq_true rfl) (by decide) dX7_passesOne_230 (fun u2 hp2 => ?_)
                          have hfin := hp2.1
                          have hfrF : z_fr b f u2 := fun j hj => by rw [hp2.2 j hj, z_u_ne (by omega)]; exact hfr3 j hj
                          have hxt : u2 (b + 2) = ct.1.1 := hfin.1.2.2.1
                          refine z_aload_n C 2 dX7_passesOne_233 rfl ?_
                          refine z_get C 0 0 zi_X7_passesOne_X7 rfl rfl (by decide) zl_X7_passesOne_7 rfl rfl dX7_passesOne_234 ?_
                          refine z_iload_n C 3 dX7_passesOne_237 rfl ?_
                          refine z_iconst C 2 dX7_passesOne_238 ?_
                          refine z_iadd C dX7_passesOne_239 ?_
                          refine z_dup2 C dX7_passesOne_240 rfl rfl ?_
                          refine z_iald C 1 0 rfl rfl (by decide) (by omega) dX7_passesOne_241 ?_
                          refine z_iconst C 1 dX7_passesOne_242 ?_
                          refine z_iadd C dX7_passesOne_243 ?_
                          refine z_iast C 1 0 ([(hM, .inr (7, [.ref aS, .ref aPa, .int (z_I kn), .ref aSl, .ref aSv, .ref aPd, .int (z_I ln)])), (aS, z_ai cI 712 (z_u u2 (b + 2) ((u2 (b + 2)) + 1)))]) rfl rfl (by decide) (by omega) rfl dX7_passesOne_244 ?_
                          refine z_iload_n C 1 dX7_passesOne_245 rfl ?_
                          exact z_irete C hQ (z_u u2 (b + 2) ((u2 (b + 2)) + 1)) rfl ⟨by rw [hrR], by rw [show z_nano ct = z_nanoR ct r by rw [z_nano, hrR], hxt]; first | (rw [z_nanoR_c hcl]; exact z_rl_tm hfin (by show 0 ≤ ct.2.1.1 + 1; omega) hns) | (rw [z_nanoR_n hcl]; exact z_rl_tm hfin hrn.1 hns), fun j hj => by rw [z_u_ne (by omega)]; exact hfrF j hj⟩ dX7_passesOne_246
                · skip
                  refine z_aload_n C 2 dX7_passesOne_156 rfl ?_
                  refine z_get C 0 0 zi_X7_passesOne_X7 rfl rfl (by decide) zl_X7_passesOne_7 rfl rfl dX7_passesOne_157 ?_
                  refine z_iload_n C 3 dX7_passesOne_160 rfl ?_
                  refine z_iconst C 2 dX7_passesOne_161 ?_
                  refine z_iadd C dX7_passesOne_162 ?_
                  refine z_iald C 1 0 rfl rfl (by decide) (by omega) dX7_passesOne_163 ?_
                  refine z_aload_n C 2 dX7_passesOne_164 rfl ?_
                  refine z_get C 0 0 zi_X7_passesOne_X7 rfl rfl (by decide) zl_X7_passesOne_7 rfl rfl dX7_passesOne_165 ?_
                  refine z_iload_n C 3 dX7_passesOne_168 rfl ?_
                  refine z_iconst C 5 dX7_passesOne_169 ?_
                  refine z_iadd C dX7_passesOne_170 ?_
                  refine z_iald C 1 0 rfl rfl (by decide) (by omega) dX7_passesOne_171 ?_
                  refine z_isub C dX7_passesOne_172 ?_
                  refine z_aload_n C 2 dX7_passesOne_173 rfl ?_
                  refine z_get C 0 0 zi_X7_passesOne_X7 rfl rfl (by decide) zl_X7_passesOne_7 rfl rfl dX7_passesOne_174 ?_
                  refine z_iload_n C 3 dX7_passesOne_177 rfl ?_
                  refine z_iconst C 0 dX7_passesOne_178 ?_
                  refine z_iadd C dX7_passesOne_179 ?_
                  refine z_iconst C 1 dX7_passesOne_180 ?_
                  refine z_iadd C dX7_passesOne_181 ?_
                  refine z_iald C 1 0 rfl rfl (by decide) (by omega) dX7_passesOne_182 ?_
                  refine z_icmp_lt C 190 dX7_passesOne_183 (by decide) (by omega) (by omega) (fun hc8 => ?_) (fun hc8 => ?_)
                  · skip
                    refine z_iconst C 0 dX7_passesOne_190 ?_
                    refine z_istore_n C [(3, .int (z_I 0)), (2, .int (z_I r.1)), (0, .ref hM), (1, .int (z_I b))] dX7_passesOne_191 (by decide) rfl ?_
                    refine z_aload_n C 2 dX7_passesOne_192 rfl ?_
                    refine z_get C 0 0 zi_X7_passesOne_X7 rfl rfl (by decide) zl_X7_passesOne_7 rfl rfl dX7_passesOne_193 ?_
                    refine z_iload_n C 3 dX7_passesOne_196 rfl ?_
                    refine z_bipush C 6 dX7_passesOne_197 (by decide) ?_
                    refine z_iadd C dX7_passesOne_199 ?_
                    refine z_iald C 1 0 rfl rfl (by decide) (by omega) dX7_passesOne_200 ?_
                    refine z_iconst C 1 dX7_passesOne_201 ?_
                    refine z_icmp_ne C 233 dX7_passesOne_202 (by decide) (by omega) (by omega) (fun hc9 => ?_) (fun hc9 => ?_)
                    · skip
                      have hcl : ¬ z_ncl ct r := fun q => q.1 (by omega)
                      have hfin := hX
                      have hfrF := hfr3
                      have hxt : g2 (b + 2) = ct.1.1 := hfin.1.2.2.1
                      refine z_aload_n C 2 dX7_passesOne_233 rfl ?_
                      refine z_get C 0 0 zi_X7_passesOne_X7 rfl rfl (by decide) zl_X7_passesOne_7 rfl rfl dX7_passesOne_234 ?_
                      refine z_iload_n C 3 dX7_passesOne_237 rfl ?_
                      refine z_iconst C 2 dX7_passesOne_238 ?_
                      refine z_iadd C dX7_passesOne_239 ?_
                      refine z_dup2 C dX7_passesOne_240 rfl rfl ?_
                      refine z_iald C 1 0 rfl rfl (by decide) (by omega) dX7_passesOne_241 ?_
                      refine z_iconst C 1 dX7_passesOne_242 ?_
                      refine z_iadd C dX7_passesOne_243 ?_
                      refine z_iast C 1 0 ([(hM, .inr (7, [.ref aS, .ref aPa, .int (z_I kn), .ref aSl, .ref aSv, .ref aPd, .int (z_I ln)])), (aS, z_ai cI 712 (z_u g2 (b + 2) ((g2 (b + 2)) + 1)))]) rfl rfl (by decide) (by omega) rfl dX7_passesOne_244 ?_
                      refine z_iload_n C 1 dX7_passesOne_245 rfl ?_
                      exact z_irete C hQ (z_u g2 (b + 2) ((g2 (b + 2)) + 1)) rfl ⟨by rw [hrR], by rw [show z_nano ct = z_nanoR ct r by rw [z_nano, hrR], hxt]; first | (rw [z_nanoR_c hcl]; exact z_rl_tm hfin (by show 0 ≤ ct.2.1.1 + 1; omega) hns) | (rw [z_nanoR_n hcl]; exact z_rl_tm hfin hrn.1 hns), fun j hj => by rw [z_u_ne (by omega)]; exact hfrF j hj⟩ dX7_passesOne_246
                    · skip
                      refine z_aload_n C 2 dX7_passesOne_205 rfl ?_
                      refine z_iload_n C 3 dX7_passesOne_206 rfl ?_
                      refine z_callVi C [0, 1] [(hM, .inr (7, [.ref aS, .ref aPa, .int (z_I kn), .ref aSl, .ref aSv, .ref aPd, .int (z_I ln)])), (aS, z_ai cI 712 g2)] [.int (z_I b)] [] (c_X7_allOnWay l D cI cZ cO hM aS aPa aSl aSv aPd kn ln g2 b (by first | assumption | omega) (by omega)) gX7_passesOne_X7_allOnWay rfl zd_X7_allOnWay rfl (by decide) rfl rfl rfl (by decide) rfl rfl rfl (Nat.le_of_ble_eq_true rfl) (by decide) dX7_passesOne_207 ?_
                      refine z_if_ne C 233 dX7_passesOne_210 (by decide) (by rw [hall]; omega) (fun hc10 => ?_) (fun hc10 => ?_)
                      · skip
                        have hcl : ¬ z_ncl ct r := fun q => hc10 (by rw [hall]; exact q.2.1)
                        have hfin := hX
                        have hfrF := hfr3
                        have hxt : g2 (b + 2) = ct.1.1 := hfin.1.2.2.1
                        refine z_aload_n C 2 dX7_passesOne_233 rfl ?_
                        refine z_get C 0 0 zi_X7_passesOne_X7 rfl rfl (by decide) zl_X7_passesOne_7 rfl rfl dX7_passesOne_234 ?_
                        refine z_iload_n C 3 dX7_passesOne_237 rfl ?_
                        refine z_iconst C 2 dX7_passesOne_238 ?_
                        refine z_iadd C dX7_passesOne_239 ?_
                        refine z_dup2 C dX7_passesOne_240 rfl rfl ?_
                        refine z_iald C 1 0 rfl rfl (by decide) (by omega) dX7_passesOne_241 ?_
                        refine z_iconst C 1 dX7_passesOne_242 ?_
                        refine z_iadd C dX7_passesOne_243 ?_
                        refine z_iast C 1 0 ([(hM, .inr (7, [.ref aS, .ref aPa, .int (z_I kn), .ref aSl, .ref aSv, .ref aPd, .int (z_I ln)])), (aS, z_ai cI 712 (z_u g2 (b + 2) ((g2 (b + 2)) + 1)))]) rfl rfl (by decide) (by omega) rfl dX7_passesOne_244 ?_
                        refine z_iload_n C 1 dX7_passesOne_245 rfl ?_
                        exact z_irete C hQ (z_u g2 (b + 2) ((g2 (b + 2)) + 1)) rfl ⟨by rw [hrR], by rw [show z_nano ct = z_nanoR ct r by rw [z_nano, hrR], hxt]; first | (rw [z_nanoR_c hcl]; exact z_rl_tm hfin (by show 0 ≤ ct.2.1.1 + 1; omega) hns) | (rw [z_nanoR_n hcl]; exact z_rl_tm hfin hrn.1 hns), fun j hj => by rw [z_u_ne (by omega)]; exact hfrF j hj⟩ dX7_passesOne_246
                      · skip
                        refine z_iload_n C 0 dX7_passesOne_213 rfl ?_
                        refine z_if_eq C 233 dX7_passesOne_214 (by decide) (by omega) (fun hc11 => ?_) (fun hc11 => ?_)
                        · first
                          | (exfalso; omega)
                          | skip
                            have hcl : ¬ z_ncl ct r := fun q => by have q2 := q.2.2; omega
                            have hfin := hX
                            have hfrF := hfr3
                            have hxt : g2 (b + 2) = ct.1.1 := hfin.1.2.2.1
                            refine z_aload_n C 2 dX7_passesOne_233 rfl ?_
                            refine z_get C 0 0 zi_X7_passesOne_X7 rfl rfl (by decide) zl_X7_passesOne_7 rfl rfl dX7_passesOne_234 ?_
                            refine z_iload_n C 3 dX7_passesOne_237 rfl ?_
                            refine z_iconst C 2 dX7_passesOne_238 ?_
                            refine z_iadd C dX7_passesOne_239 ?_
                            refine z_dup2 C dX7_passesOne_240 rfl rfl ?_
                            refine z_iald C 1 0 rfl rfl (by decide) (by omega) dX7_passesOne_241 ?_
                            refine z_iconst C 1 dX7_passesOne_242 ?_
                            refine z_iadd C dX7_passesOne_243 ?_
                            refine z_iast C 1 0 ([(hM, .inr (7, [.ref aS, .ref aPa, .int (z_I kn), .ref aSl, .ref aSv, .ref aPd, .int (z_I ln)])), (aS, z_ai cI 712 (z_u g2 (b + 2) ((g2 (b + 2)) + 1)))]) rfl rfl (by decide) (by omega) rfl dX7_passesOne_244 ?_
                            refine z_iload_n C 1 dX7_passesOne_245 rfl ?_
                            exact z_irete C hQ (z_u g2 (b + 2) ((g2 (b + 2)) + 1)) rfl ⟨by rw [hrR], by rw [show z_nano ct = z_nanoR ct r by rw [z_nano, hrR], hxt]; first | (rw [z_nanoR_c hcl]; exact z_rl_tm hfin (by show 0 ≤ ct.2.1.1 + 1; omega) hns) | (rw [z_nanoR_n hcl]; exact z_rl_tm hfin hrn.1 hns), fun j hj => by rw [z_u_ne (by omega)]; exact hfrF j hj⟩ dX7_passesOne_246
                        · first
                          | (exfalso; omega)
                          | skip
                            have hcl : z_ncl ct r := ⟨by omega, by rw [← hall]; omega, by omega⟩
                            refine z_aload_n C 2 dX7_passesOne_217 rfl ?_
                            refine z_get C 0 0 zi_X7_passesOne_X7 rfl rfl (by decide) zl_X7_passesOne_7 rfl rfl dX7_passesOne_218 ?_
                            refine z_iload_n C 3 dX7_passesOne_221 rfl ?_
                            refine z_bipush C 6 dX7_passesOne_222 (by decide) ?_
                            refine z_iadd C dX7_passesOne_224 ?_
                            refine z_iconst C 0 dX7_passesOne_225 ?_
                            refine z_iast C 1 0 ([(hM, .inr (7, [.ref aS, .ref aPa, .int (z_I kn), .ref aSl, .ref aSv, .ref aPd, .int (z_I ln)])), (aS, z_ai cI 712 (z_u g2 (b + 6) 0))]) rfl rfl (by decide) (by omega) rfl dX7_passesOne_226 ?_
                            refine z_aload_n C 2 dX7_passesOne_227 rfl ?_
                            refine z_iload_n C 3 dX7_passesOne_228 rfl ?_
                            refine z_iconst C 1 dX7_passesOne_229 ?_
                            refine z_callEv C [0, 1] (fun u2 => [(hM, .inr (7, [.ref aS, .ref aPa, .int (z_I kn), .ref aSl, .ref aSv, .ref aPd, .int (z_I ln)])), (aS, z_ai cI 712 u2)]) [.int (z_I b), .int (z_I 1)] [] (c_X7_reads l D cI cZ cO hM aS aPa aSl aSv aPd kn ln (z_u g2 (b + 6) 0) b ((ct.1.1, ct.1.2.1, r.2.1, ct.1.2.2.2.1, ct.1.2.2.2.2.1, r.2.2.2.1, ct.1.2.2.2.2.2.2), ct.2.1, (z_nsg ct r), ct.2.2.2.1, ct.2.2.2.2.1, ct.2.2.2.2.2.1, (z_nld ct r), 0) (fun _ _ => True) (fun j x => r.2.2.2.2 (j * 21 + (ct.1.1 + 1 + x) % 21)) 1 (by first | assumption | omega) (z_rl_lw hX hrn.1 hns) hst hrsh (by show 0 ≤ ct.2.1.1 ∧ ct.2.1.1 < 99; omega)) gX7_passesOne_X7_reads rfl zd_X7_reads rfl (by decide) rfl rfl rfl (by decide) (fun _ => rfl) (fun _ => rfl) rfl (Nat.le_of_ble_eq_true rfl) (by decide) dX7_passesOne_230 (fun u2 hp2 => ?_)
                            have hfin := hp2.1
                            have hfrF : z_fr b f u2 := fun j hj => by rw [hp2.2 j hj, z_u_ne (by omega)]; exact hfr3 j hj
                            have hxt : u2 (b + 2) = ct.1.1 := hfin.1.2.2.1
                            refine z_aload_n C 2 dX7_passesOne_233 rfl ?_
                            refine z_get C 0 0 zi_X7_passesOne_X7 rfl rfl (by decide) zl_X7_passesOne_7 rfl rfl dX7_passesOne_234 ?_
                            refine z_iload_n C 3 dX7_passesOne_237 rfl ?_
                            refine z_iconst C 2 dX7_passesOne_238 ?_
                            refine z_iadd C dX7_passesOne_239 ?_
                            refine z_dup2 C dX7_passesOne_240 rfl rfl ?_
                            refine z_iald C 1 0 rfl rfl (by decide) (by omega) dX7_passesOne_241 ?_
                            refine z_iconst C 1 dX7_passesOne_242 ?_
                            refine z_iadd C dX7_passesOne_243 ?_
                            refine z_iast C 1 0 ([(hM, .inr (7, [.ref aS, .ref aPa, .int (z_I kn), .ref aSl, .ref aSv, .ref aPd, .int (z_I ln)])), (aS, z_ai cI 712 (z_u u2 (b + 2) ((u2 (b + 2)) + 1)))]) rfl rfl (by decide) (by omega) rfl dX7_passesOne_244 ?_
                            refine z_iload_n C 1 dX7_passesOne_245 rfl ?_
                            exact z_irete C hQ (z_u u2 (b + 2) ((u2 (b + 2)) + 1)) rfl ⟨by rw [hrR], by rw [show z_nano ct = z_nanoR ct r by rw [z_nano, hrR], hxt]; first | (rw [z_nanoR_c hcl]; exact z_rl_tm hfin (by show 0 ≤ ct.2.1.1 + 1; omega) hns) | (rw [z_nanoR_n hcl]; exact z_rl_tm hfin hrn.1 hns), fun j hj => by rw [z_u_ne (by omega)]; exact hfrF j hj⟩ dX7_passesOne_246
                  · skip
                    refine z_iconst C 1 dX7_passesOne_186 ?_
                    refine z_goto C 191 dX7_passesOne_187 (by decide) ?_
                    refine z_istore_n C [(3, .int (z_I 1)), (2, .int (z_I r.1)), (0, .ref hM), (1, .int (z_I b))] dX7_passesOne_191 (by decide) rfl ?_
                    refine z_aload_n C 2 dX7_passesOne_192 rfl ?_
                    refine z_get C 0 0 zi_X7_passesOne_X7 rfl rfl (by decide) zl_X7_passesOne_7 rfl rfl dX7_passesOne_193 ?_
                    refine z_iload_n C 3 dX7_passesOne_196 rfl ?_
                    refine z_bipush C 6 dX7_passesOne_197 (by decide) ?_
                    refine z_iadd C dX7_passesOne_199 ?_
                    refine z_iald C 1 0 rfl rfl (by decide) (by omega) dX7_passesOne_200 ?_
                    refine z_iconst C 1 dX7_passesOne_201 ?_
                    refine z_icmp_ne C 233 dX7_passesOne_202 (by decide) (by omega) (by omega) (fun hc12 => ?_) (fun hc12 => ?_)
                    · skip
                      have hcl : ¬ z_ncl ct r := fun q => q.1 (by omega)
                      have hfin := hX
                      have hfrF := hfr3
                      have hxt : g2 (b + 2) = ct.1.1 := hfin.1.2.2.1
                      refine z_aload_n C 2 dX7_passesOne_233 rfl ?_
                      refine z_get C 0 0 zi_X7_passesOne_X7 rfl rfl (by decide) zl_X7_passesOne_7 rfl rfl dX7_passesOne_234 ?_
                      refine z_iload_n C 3 dX7_passesOne_237 rfl ?_
                      refine z_iconst C 2 dX7_passesOne_238 ?_
                      refine z_iadd C dX7_passesOne_239 ?_
                      refine z_dup2 C dX7_passesOne_240 rfl rfl ?_
                      refine z_iald C 1 0 rfl rfl (by decide) (by omega) dX7_passesOne_241 ?_
                      refine z_iconst C 1 dX7_passesOne_242 ?_
                      refine z_iadd C dX7_passesOne_243 ?_
                      refine z_iast C 1 0 ([(hM, .inr (7, [.ref aS, .ref aPa, .int (z_I kn), .ref aSl, .ref aSv, .ref aPd, .int (z_I ln)])), (aS, z_ai cI 712 (z_u g2 (b + 2) ((g2 (b + 2)) + 1)))]) rfl rfl (by decide) (by omega) rfl dX7_passesOne_244 ?_
                      refine z_iload_n C 1 dX7_passesOne_245 rfl ?_
                      exact z_irete C hQ (z_u g2 (b + 2) ((g2 (b + 2)) + 1)) rfl ⟨by rw [hrR], by rw [show z_nano ct = z_nanoR ct r by rw [z_nano, hrR], hxt]; first | (rw [z_nanoR_c hcl]; exact z_rl_tm hfin (by show 0 ≤ ct.2.1.1 + 1; omega) hns) | (rw [z_nanoR_n hcl]; exact z_rl_tm hfin hrn.1 hns), fun j hj => by rw [z_u_ne (by omega)]; exact hfrF j hj⟩ dX7_passesOne_246
                    · skip
                      refine z_aload_n C 2 dX7_passesOne_205 rfl ?_
                      refine z_iload_n C 3 dX7_passesOne_206 rfl ?_
                      refine z_callVi C [0, 1] [(hM, .inr (7, [.ref aS, .ref aPa, .int (z_I kn), .ref aSl, .ref aSv, .ref aPd, .int (z_I ln)])), (aS, z_ai cI 712 g2)] [.int (z_I b)] [] (c_X7_allOnWay l D cI cZ cO hM aS aPa aSl aSv aPd kn ln g2 b (by first | assumption | omega) (by omega)) gX7_passesOne_X7_allOnWay rfl zd_X7_allOnWay rfl (by decide) rfl rfl rfl (by decide) rfl rfl rfl (Nat.le_of_ble_eq_true rfl) (by decide) dX7_passesOne_207 ?_
                      refine z_if_ne C 233 dX7_passesOne_210 (by decide) (by rw [hall]; omega) (fun hc13 => ?_) (fun hc13 => ?_)
                      · skip
                        have hcl : ¬ z_ncl ct r := fun q => hc13 (by rw [hall]; exact q.2.1)
                        have hfin := hX
                        have hfrF := hfr3
                        have hxt : g2 (b + 2) = ct.1.1 := hfin.1.2.2.1
                        refine z_aload_n C 2 dX7_passesOne_233 rfl ?_
                        refine z_get C 0 0 zi_X7_passesOne_X7 rfl rfl (by decide) zl_X7_passesOne_7 rfl rfl dX7_passesOne_234 ?_
                        refine z_iload_n C 3 dX7_passesOne_237 rfl ?_
                        refine z_iconst C 2 dX7_passesOne_238 ?_
                        refine z_iadd C dX7_passesOne_239 ?_
                        refine z_dup2 C dX7_passesOne_240 rfl rfl ?_
                        refine z_iald C 1 0 rfl rfl (by decide) (by omega) dX7_passesOne_241 ?_
                        refine z_iconst C 1 dX7_passesOne_242 ?_
                        refine z_iadd C dX7_passesOne_243 ?_
                        refine z_iast C 1 0 ([(hM, .inr (7, [.ref aS, .ref aPa, .int (z_I kn), .ref aSl, .ref aSv, .ref aPd, .int (z_I ln)])), (aS, z_ai cI 712 (z_u g2 (b + 2) ((g2 (b + 2)) + 1)))]) rfl rfl (by decide) (by omega) rfl dX7_passesOne_244 ?_
                        refine z_iload_n C 1 dX7_passesOne_245 rfl ?_
                        exact z_irete C hQ (z_u g2 (b + 2) ((g2 (b + 2)) + 1)) rfl ⟨by rw [hrR], by rw [show z_nano ct = z_nanoR ct r by rw [z_nano, hrR], hxt]; first | (rw [z_nanoR_c hcl]; exact z_rl_tm hfin (by show 0 ≤ ct.2.1.1 + 1; omega) hns) | (rw [z_nanoR_n hcl]; exact z_rl_tm hfin hrn.1 hns), fun j hj => by rw [z_u_ne (by omega)]; exact hfrF j hj⟩ dX7_passesOne_246
                      · skip
                        refine z_iload_n C 0 dX7_passesOne_213 rfl ?_
                        refine z_if_eq C 233 dX7_passesOne_214 (by decide) (by omega) (fun hc14 => ?_) (fun hc14 => ?_)
                        · first
                          | (exfalso; omega)
                          | skip
                            have hcl : ¬ z_ncl ct r := fun q => by have q2 := q.2.2; omega
                            have hfin := hX
                            have hfrF := hfr3
                            have hxt : g2 (b + 2) = ct.1.1 := hfin.1.2.2.1
                            refine z_aload_n C 2 dX7_passesOne_233 rfl ?_
                            refine z_get C 0 0 zi_X7_passesOne_X7 rfl rfl (by decide) zl_X7_passesOne_7 rfl rfl dX7_passesOne_234 ?_
                            refine z_iload_n C 3 dX7_passesOne_237 rfl ?_
                            refine z_iconst C 2 dX7_passesOne_238 ?_
                            refine z_iadd C dX7_passesOne_239 ?_
                            refine z_dup2 C dX7_passesOne_240 rfl rfl ?_
                            refine z_iald C 1 0 rfl rfl (by decide) (by omega) dX7_passesOne_241 ?_
                            refine z_iconst C 1 dX7_passesOne_242 ?_
                            refine z_iadd C dX7_passesOne_243 ?_
                            refine z_iast C 1 0 ([(hM, .inr (7, [.ref aS, .ref aPa, .int (z_I kn), .ref aSl, .ref aSv, .ref aPd, .int (z_I ln)])), (aS, z_ai cI 712 (z_u g2 (b + 2) ((g2 (b + 2)) + 1)))]) rfl rfl (by decide) (by omega) rfl dX7_passesOne_244 ?_
                            refine z_iload_n C 1 dX7_passesOne_245 rfl ?_
                            exact z_irete C hQ (z_u g2 (b + 2) ((g2 (b + 2)) + 1)) rfl ⟨by rw [hrR], by rw [show z_nano ct = z_nanoR ct r by rw [z_nano, hrR], hxt]; first | (rw [z_nanoR_c hcl]; exact z_rl_tm hfin (by show 0 ≤ ct.2.1.1 + 1; omega) hns) | (rw [z_nanoR_n hcl]; exact z_rl_tm hfin hrn.1 hns), fun j hj => by rw [z_u_ne (by omega)]; exact hfrF j hj⟩ dX7_passesOne_246
                        · first
                          | (exfalso; omega)
                          | skip
                            have hcl : z_ncl ct r := ⟨by omega, by rw [← hall]; omega, by omega⟩
                            refine z_aload_n C 2 dX7_passesOne_217 rfl ?_
                            refine z_get C 0 0 zi_X7_passesOne_X7 rfl rfl (by decide) zl_X7_passesOne_7 rfl rfl dX7_passesOne_218 ?_
                            refine z_iload_n C 3 dX7_passesOne_221 rfl ?_
                            refine z_bipush C 6 dX7_passesOne_222 (by decide) ?_
                            refine z_iadd C dX7_passesOne_224 ?_
                            refine z_iconst C 0 dX7_passesOne_225 ?_
                            refine z_iast C 1 0 ([(hM, .inr (7, [.ref aS, .ref aPa, .int (z_I kn), .ref aSl, .ref aSv, .ref aPd, .int (z_I ln)])), (aS, z_ai cI 712 (z_u g2 (b + 6) 0))]) rfl rfl (by decide) (by omega) rfl dX7_passesOne_226 ?_
                            refine z_aload_n C 2 dX7_passesOne_227 rfl ?_
                            refine z_iload_n C 3 dX7_passesOne_228 rfl ?_
                            refine z_iconst C 1 dX7_passesOne_229 ?_
                            refine z_callEv C [0, 1] (fun u2 => [(hM, .inr (7, [.ref aS, .ref aPa, .int (z_I kn), .ref aSl, .ref aSv, .ref aPd, .int (z_I ln)])), (aS, z_ai cI 712 u2)]) [.int (z_I b), .int (z_I 1)] [] (c_X7_reads l D cI cZ cO hM aS aPa aSl aSv aPd kn ln (z_u g2 (b + 6) 0) b ((ct.1.1, ct.1.2.1, r.2.1, ct.1.2.2.2.1, ct.1.2.2.2.2.1, r.2.2.2.1, ct.1.2.2.2.2.2.2), ct.2.1, (z_nsg ct r), ct.2.2.2.1, ct.2.2.2.2.1, ct.2.2.2.2.2.1, (z_nld ct r), 0) (fun _ _ => True) (fun j x => r.2.2.2.2 (j * 21 + (ct.1.1 + 1 + x) % 21)) 1 (by first | assumption | omega) (z_rl_lw hX hrn.1 hns) hst hrsh (by show 0 ≤ ct.2.1.1 ∧ ct.2.1.1 < 99; omega)) gX7_passesOne_X7_reads rfl zd_X7_reads rfl (by decide) rfl rfl rfl (by decide) (fun _ => rfl) (fun _ => rfl) rfl (Nat.le_of_ble_eq_true rfl) (by decide) dX7_passesOne_230 (fun u2 hp2 => ?_)
                            have hfin := hp2.1
                            have hfrF : z_fr b f u2 := fun j hj => by rw [hp2.2 j hj, z_u_ne (by omega)]; exact hfr3 j hj
                            have hxt : u2 (b + 2) = ct.1.1 := hfin.1.2.2.1
                            refine z_aload_n C 2 dX7_passesOne_233 rfl ?_
                            refine z_get C 0 0 zi_X7_passesOne_X7 rfl rfl (by decide) zl_X7_passesOne_7 rfl rfl dX7_passesOne_234 ?_
                            refine z_iload_n C 3 dX7_passesOne_237 rfl ?_
                            refine z_iconst C 2 dX7_passesOne_238 ?_
                            refine z_iadd C dX7_passesOne_239 ?_
                            refine z_dup2 C dX7_passesOne_240 rfl rfl ?_
                            refine z_iald C 1 0 rfl rfl (by decide) (by omega) dX7_passesOne_241 ?_
                            refine z_iconst C 1 dX7_passesOne_242 ?_
                            refine z_iadd C dX7_passesOne_243 ?_
                            refine z_iast C 1 0 ([(hM, .inr (7, [.ref aS, .ref aPa, .int (z_I kn), .ref aSl, .ref aSv, .ref aPd, .int (z_I ln)])), (aS, z_ai cI 712 (z_u u2 (b + 2) ((u2 (b + 2)) + 1)))]) rfl rfl (by decide) (by omega) rfl dX7_passesOne_244 ?_
                            refine z_iload_n C 1 dX7_passesOne_245 rfl ?_
                            exact z_irete C hQ (z_u u2 (b + 2) ((u2 (b + 2)) + 1)) rfl ⟨by rw [hrR], by rw [show z_nano ct = z_nanoR ct r by rw [z_nano, hrR], hxt]; first | (rw [z_nanoR_c hcl]; exact z_rl_tm hfin (by show 0 ≤ ct.2.1.1 + 1; omega) hns) | (rw [z_nanoR_n hcl]; exact z_rl_tm hfin hrn.1 hns), fun j hj => by rw [z_u_ne (by omega)]; exact hfrF j hj⟩ dX7_passesOne_246
              · skip
                refine z_iconst C 0 dX7_passesOne_84 ?_
                refine z_istore C [(4, .int (z_I 0)), (3, .int (z_I kk)), (2, .int (z_I r.1)), (0, .ref hM), (1, .int (z_I b))] dX7_passesOne_85 (by decide) rfl ?_
                have loop87 : ∀ (zn : Nat) (i2 : Int) (g3 : Int → Int), 0 ≤ i2 ∧ i2 ≤ 20 → z_rl ((ct.1.1, ct.1.2.1, r.2.1, ct.1.2.2.2.1, ct.1.2.2.2.2.1, r.2.2.2.1, ct.1.2.2.2.2.2.2), ct.2.1, (z_nsg ct r), ct.2.2.2.1, ct.2.2.2.2.1, ct.2.2.2.2.2.1, (z_nld ct r), ct.2.2.2.2.2.2.2) (z_pH ct kk i2) (z_eH ct r kk i2) b g3 → z_fr b f g3 → (20 - i2) < (zn : Int) → z_V p l e { frames := 3, cells := 0, slots := 0, locals := 69 } s m args below meth c D A 5 0 0 Q [(hM, .inr (7, [.ref aS, .ref aPa, .int (z_I kn), .ref aSl, .ref aSv, .ref aPd, .int (z_I ln)])), (aS, z_ai cI 712 g3)] 87 [(4, .int (z_I i2)), (3, .int (z_I kk)), (2, .int (z_I r.1)), (0, .ref hM), (1, .int (z_I b))] [] := by
                  intro zn
                  induction zn with
                  | zero => intro i2 g3 hi2 hg3l hfr4 hm87; exact absurd hm87 (by omega)
                  | succ zn87 ih87 =>
                    intro i2 g3 hi2 hg3l hfr4 hm87
                    refine z_iload C 0 dX7_passesOne_87 rfl ?_
                    refine z_bipush C 20 dX7_passesOne_89 (by decide) ?_
                    refine z_icmp_ge C 126 dX7_passesOne_91 (by decide) (by omega) (by omega) (fun hc15 => ?_) (fun hc15 => ?_)
                    · skip
                      have hi20 : i2 = 20 := by omega
                      refine z_aload_n C 3 dX7_passesOne_126 rfl ?_
                      refine z_get C 0 0 zi_X7_passesOne_X7 rfl rfl (by decide) zl_X7_passesOne_7 rfl rfl dX7_passesOne_127 ?_
                      refine z_iload_n C 4 dX7_passesOne_130 rfl ?_
                      refine z_iload_n C 1 dX7_passesOne_131 rfl ?_
                      refine z_bipush C 20 dX7_passesOne_132 (by decide) ?_
                      refine z_callSi C [] [(hM, .inr (7, [.ref aS, .ref aPa, .int (z_I kn), .ref aSl, .ref aSv, .ref aPd, .int (z_I ln)])), (aS, z_ai cI 712 g3)] [.int (z_I b), .int (z_I kk), .int (z_I 20)] [.ref aS] (c_X7_due l D cI cZ cO b kk 20 ) gX7_passesOne_X7_due rfl zd_X7_due rfl (by decide) rfl (by decide) rfl rfl rfl (Nat.le_of_ble_eq_true rfl) (by decide) dX7_passesOne_134 ?_
                      refine z_iconst C 0 dX7_passesOne_137 ?_
                      refine z_iast C 1 0 ([(hM, .inr (7, [.ref aS, .ref aPa, .int (z_I kn), .ref aSl, .ref aSv, .ref aPd, .int (z_I ln)])), (aS, z_ai cI 712 (z_u g3 (b + 24 + 21 * kk + 20) 0))]) rfl rfl (by decide) (by omega) rfl dX7_passesOne_138 ?_
                      refine z_iinc C 1 [(3, .int (z_I (kk + 1))), (4, .int (z_I i2)), (2, .int (z_I r.1)), (0, .ref hM), (1, .int (z_I b))] dX7_passesOne_139 rfl (by decide) rfl ?_
                      refine z_goto C 79 dX7_passesOne_142 (by decide) ?_
                      refine z_lsub [(3, .int (z_I (kk + 1))), (2, .int (z_I r.1)), (0, .ref hM), (1, .int (z_I b))] [0, 2, 3, 4] rfl ?_
                      exact ih79 (kk + 1) (z_u g3 (b + 24 + 21 * kk + 20) 0) (by first | assumption | omega) (by rw [hi20] at hg3l; exact z_rlH_n (z_rlH_s hg3l (by omega) (by omega) (by rw [if_pos rfl]) hrn.1 hns)) (fun j hj => by rw [z_u_ne (by omega)]; exact hfr4 j hj) (by omega)
                    · skip
                      refine z_aload_n C 3 dX7_passesOne_94 rfl ?_
                      refine z_get C 0 0 zi_X7_passesOne_X7 rfl rfl (by decide) zl_X7_passesOne_7 rfl rfl dX7_passesOne_95 ?_
                      refine z_iload_n C 4 dX7_passesOne_98 rfl ?_
                      refine z_iload_n C 1 dX7_passesOne_99 rfl ?_
                      refine z_iload C 0 dX7_passesOne_100 rfl ?_
                      refine z_callSi C [] [(hM, .inr (7, [.ref aS, .ref aPa, .int (z_I kn), .ref aSl, .ref aSv, .ref aPd, .int (z_I ln)])), (aS, z_ai cI 712 g3)] [.int (z_I b), .int (z_I kk), .int (z_I i2)] [.ref aS] (c_X7_due l D cI cZ cO b kk i2 ) gX7_passesOne_X7_due rfl zd_X7_due rfl (by decide) rfl (by decide) rfl rfl rfl (Nat.le_of_ble_eq_true rfl) (by decide) dX7_passesOne_102 ?_
                      refine z_aload_n C 3 dX7_passesOne_105 rfl ?_
                      refine z_get C 0 0 zi_X7_passesOne_X7 rfl rfl (by decide) zl_X7_passesOne_7 rfl rfl dX7_passesOne_106 ?_
                      refine z_iload_n C 4 dX7_passesOne_109 rfl ?_
                      refine z_iload_n C 1 dX7_passesOne_110 rfl ?_
                      refine z_iload C 0 dX7_passesOne_111 rfl ?_
                      refine z_iconst C 1 dX7_passesOne_113 ?_
                      refine z_iadd C dX7_passesOne_114 ?_
                      refine z_callSi C [] [(hM, .inr (7, [.ref aS, .ref aPa, .int (z_I kn), .ref aSl, .ref aSv, .ref aPd, .int (z_I ln)])), (aS, z_ai cI 712 g3)] [.int (z_I b), .int (z_I kk), .int (z_I (i2 + 1))] [.ref aS, .int (z_I (b + 24 + 21 * kk + i2)), .ref aS] (c_X7_due l D cI cZ cO b kk (i2 + 1) ) gX7_passesOne_X7_due rfl zd_X7_due rfl (by decide) rfl (by decide) rfl rfl rfl (Nat.le_of_ble_eq_true rfl) (by decide) dX7_passesOne_115 ?_
                      refine z_iald C 1 0 rfl rfl (by decide) (by omega) dX7_passesOne_118 ?_
                      refine z_iast C 1 0 ([(hM, .inr (7, [.ref aS, .ref aPa, .int (z_I kn), .ref aSl, .ref aSv, .ref aPd, .int (z_I ln)])), (aS, z_ai cI 712 (z_u g3 (b + 24 + 21 * kk + i2) (g3 (b + 24 + 21 * kk + (i2 + 1)))))]) rfl rfl (by decide) (by omega) rfl dX7_passesOne_119 ?_
                      refine z_iinc C 0 [(4, .int (z_I (i2 + 1))), (3, .int (z_I kk)), (2, .int (z_I r.1)), (0, .ref hM), (1, .int (z_I b))] dX7_passesOne_120 rfl (by decide) rfl ?_
                      refine z_goto C 87 dX7_passesOne_123 (by decide) ?_
                      exact ih87 (i2 + 1) (z_u g3 (b + 24 + 21 * kk + i2) (g3 (b + 24 + 21 * kk + (i2 + 1)))) (by first | assumption | omega) (z_rlH_s hg3l (by omega) (by omega) (by rw [if_neg (by omega)]) hrn.1 hns) (fun j hj => by rw [z_u_ne (by omega)]; exact hfr4 j hj) (by omega)
                exact loop87 21 0 g2 (by first | assumption | omega) hg2l hfr3 (by omega)
          exact loop79 6 0 g (by first | assumption | omega) (z_rlH_0 hQ1) hfq (by omega)
        · skip
          have hA : 0 < r.1 := by omega
          refine z_aload_n C 2 dX7_passesOne_56 rfl ?_
          refine z_get C 0 0 zi_X7_passesOne_X7 rfl rfl (by decide) zl_X7_passesOne_7 rfl rfl dX7_passesOne_57 ?_
          refine z_iload_n C 3 dX7_passesOne_60 rfl ?_
          refine z_iconst C 5 dX7_passesOne_61 ?_
          refine z_iadd C dX7_passesOne_62 ?_
          refine z_aload_n C 2 dX7_passesOne_63 rfl ?_
          refine z_get C 0 0 zi_X7_passesOne_X7 rfl rfl (by decide) zl_X7_passesOne_7 rfl rfl dX7_passesOne_64 ?_
          refine z_iload_n C 3 dX7_passesOne_67 rfl ?_
          refine z_iconst C 2 dX7_passesOne_68 ?_
          refine z_iadd C dX7_passesOne_69 ?_
          refine z_iald C 1 0 rfl rfl (by decide) (by omega) dX7_passesOne_70 ?_
          rw [hg2t]
          refine z_iast C 1 0 ([(hM, .inr (7, [.ref aS, .ref aPa, .int (z_I kn), .ref aSl, .ref aSv, .ref aPd, .int (z_I ln)])), (aS, z_ai cI 712 (z_u g (b + 5) ct.1.1))]) rfl rfl (by decide) (by omega) rfl dX7_passesOne_71 ?_
          refine z_aload_n C 2 dX7_passesOne_72 rfl ?_
          refine z_iload_n C 3 dX7_passesOne_73 rfl ?_
          refine z_callEv C [0, 1] (fun u1 => [(hM, .inr (7, [.ref aS, .ref aPa, .int (z_I kn), .ref aSl, .ref aSv, .ref aPd, .int (z_I ln)])), (aS, z_ai cI 712 u1)]) [.int (z_I b)] [] (c_X7_sees l D cI cZ cO hM aS aPa aSl aSv aPd kn ln (z_u g (b + 5) ct.1.1) b ((ct.1.1, ct.1.2.1, r.2.1, ct.1.2.2.2.1, ct.1.2.2.2.2.1, r.2.2.2.1, ct.1.2.2.2.2.2.2), ct.2.1, ct.2.2.1, ct.2.2.2.1, ct.2.2.2.2.1, ct.2.2.2.2.2.1, ct.1.1, ct.2.2.2.2.2.2.2) (fun j x => ¬ x = 0 ∨ ct.1.2.1 ≤ j) (z_eS ct r) (by first | assumption | omega) (z_rl_ld hgl hrn.1 hsn.1) hst hrsh hsg hck ⟨ht0, htt⟩ hrn.2) gX7_passesOne_X7_sees rfl zd_X7_sees rfl (by decide) rfl rfl rfl (by decide) (fun _ => rfl) (fun _ => rfl) rfl (Nat.le_of_ble_eq_true rfl) (by decide) dX7_passesOne_74 (fun u1 hp1 => ?_)
          have hQ1 : z_rl ((ct.1.1, ct.1.2.1, r.2.1, ct.1.2.2.2.1, ct.1.2.2.2.2.1, r.2.2.2.1, ct.1.2.2.2.2.2.2), ct.2.1, (z_nsg ct r), ct.2.2.2.1, ct.2.2.2.2.1, ct.2.2.2.2.2.1, (z_nld ct r), ct.2.2.2.2.2.2.2) (fun j x => ¬ x = 0 ∨ ct.1.2.1 ≤ j) (z_eS ct r) b u1 := by rw [z_nsg_y hA, z_nld_y hA]; exact hp1.1
          have hfq : z_fr b f u1 := fun j hj => by rw [hp1.2 j hj, z_u_ne (by omega)]; exact hfr j hj
          refine z_iconst C 0 dX7_passesOne_77 ?_
          refine z_istore_n C [(3, .int (z_I 0)), (2, .int (z_I r.1)), (0, .ref hM), (1, .int (z_I b))] dX7_passesOne_78 (by decide) rfl ?_
          have loop79 : ∀ (zn : Nat) (kk : Int) (g2 : Int → Int), 0 ≤ kk ∧ kk ≤ 5 → z_rl ((ct.1.1, ct.1.2.1, r.2.1, ct.1.2.2.2.1, ct.1.2.2.2.2.1, r.2.2.2.1, ct.1.2.2.2.2.2.2), ct.2.1, (z_nsg ct r), ct.2.2.2.1, ct.2.2.2.2.1, ct.2.2.2.2.2.1, (z_nld ct r), ct.2.2.2.2.2.2.2) (z_pH ct kk 0) (z_eH ct r kk 0) b g2 → z_fr b f g2 → (5 - kk) < (zn : Int) → z_V p l e { frames := 3, cells := 0, slots := 0, locals := 69 } s m args below meth c D A 5 0 0 Q [(hM, .inr (7, [.ref aS, .ref aPa, .int (z_I kn), .ref aSl, .ref aSv, .ref aPd, .int (z_I ln)])), (aS, z_ai cI 712 g2)] 79 [(3, .int (z_I kk)), (2, .int (z_I r.1)), (0, .ref hM), (1, .int (z_I b))] [] := by
            intro zn
            induction zn with
            | zero => intro kk g2 hkk hg2l hfr3 hm79; exact absurd hm79 (by omega)
            | succ zn79 ih79 =>
              intro kk g2 hkk hg2l hfr3 hm79
              refine z_iload_n C 0 dX7_passesOne_79 rfl ?_
              refine z_iconst C 5 dX7_passesOne_80 ?_
              refine z_icmp_ge C 145 dX7_passesOne_81 (by decide) (by omega) (by omega) (fun hc16 => ?_) (fun hc16 => ?_)
              · skip
                have hk5 : kk = 5 := by omega
                rw [hk5] at hg2l
                have hX := z_rlH_e hg2l hzz
                have hx5 : g2 (b + 5) = z_nld ct r := hX.1.2.2.2.2.2.1
                have hx2 : g2 (b + 2) = ct.1.1 := hX.1.2.2.1
                have hx1 : g2 (b + 0 + 1) = ct.2.2.2.1 := by rw [show b + 0 + 1 = b + 1 by omega]; exact hX.1.2.1
                have hx6 : g2 (b + 6) = ct.2.2.2.2.2.2.2 := hX.1.2.2.2.2.2.2.1
                have hx0 : g2 b = ct.1.2.1 := hX.1.1
                have hall := z_allOn hX (by omega) hst hrz
                rw [← hrow] at hall
                refine z_aload_n C 2 dX7_passesOne_145 rfl ?_
                refine z_get C 0 0 zi_X7_passesOne_X7 rfl rfl (by decide) zl_X7_passesOne_7 rfl rfl dX7_passesOne_146 ?_
                refine z_iload_n C 3 dX7_passesOne_149 rfl ?_
                refine z_iconst C 5 dX7_passesOne_150 ?_
                refine z_iadd C dX7_passesOne_151 ?_
                refine z_iald C 1 0 rfl rfl (by decide) (by omega) dX7_passesOne_152 ?_
                refine z_if_lt C 186 dX7_passesOne_153 (by decide) (by omega) (fun hc17 => ?_) (fun hc17 => ?_)
                · skip
                  refine z_iconst C 1 dX7_passesOne_186 ?_
                  refine z_goto C 191 dX7_passesOne_187 (by decide) ?_
                  refine z_istore_n C [(3, .int (z_I 1)), (2, .int (z_I r.1)), (0, .ref hM), (1, .int (z_I b))] dX7_passesOne_191 (by decide) rfl ?_
                  refine z_aload_n C 2 dX7_passesOne_192 rfl ?_
                  refine z_get C 0 0 zi_X7_passesOne_X7 rfl rfl (by decide) zl_X7_passesOne_7 rfl rfl dX7_passesOne_193 ?_
                  refine z_iload_n C 3 dX7_passesOne_196 rfl ?_
                  refine z_bipush C 6 dX7_passesOne_197 (by decide) ?_
                  refine z_iadd C dX7_passesOne_199 ?_
                  refine z_iald C 1 0 rfl rfl (by decide) (by omega) dX7_passesOne_200 ?_
                  refine z_iconst C 1 dX7_passesOne_201 ?_
                  refine z_icmp_ne C 233 dX7_passesOne_202 (by decide) (by omega) (by omega) (fun hc18 => ?_) (fun hc18 => ?_)
                  · skip
                    have hcl : ¬ z_ncl ct r := fun q => q.1 (by omega)
                    have hfin := hX
                    have hfrF := hfr3
                    have hxt : g2 (b + 2) = ct.1.1 := hfin.1.2.2.1
                    refine z_aload_n C 2 dX7_passesOne_233 rfl ?_
                    refine z_get C 0 0 zi_X7_passesOne_X7 rfl rfl (by decide) zl_X7_passesOne_7 rfl rfl dX7_passesOne_234 ?_
                    refine z_iload_n C 3 dX7_passesOne_237 rfl ?_
                    refine z_iconst C 2 dX7_passesOne_238 ?_
                    refine z_iadd C dX7_passesOne_239 ?_
                    refine z_dup2 C dX7_passesOne_240 rfl rfl ?_
                    refine z_iald C 1 0 rfl rfl (by decide) (by omega) dX7_passesOne_241 ?_
                    refine z_iconst C 1 dX7_passesOne_242 ?_
                    refine z_iadd C dX7_passesOne_243 ?_
                    refine z_iast C 1 0 ([(hM, .inr (7, [.ref aS, .ref aPa, .int (z_I kn), .ref aSl, .ref aSv, .ref aPd, .int (z_I ln)])), (aS, z_ai cI 712 (z_u g2 (b + 2) ((g2 (b + 2)) + 1)))]) rfl rfl (by decide) (by omega) rfl dX7_passesOne_244 ?_
                    refine z_iload_n C 1 dX7_passesOne_245 rfl ?_
                    exact z_irete C hQ (z_u g2 (b + 2) ((g2 (b + 2)) + 1)) rfl ⟨by rw [hrR], by rw [show z_nano ct = z_nanoR ct r by rw [z_nano, hrR], hxt]; first | (rw [z_nanoR_c hcl]; exact z_rl_tm hfin (by show 0 ≤ ct.2.1.1 + 1; omega) hns) | (rw [z_nanoR_n hcl]; exact z_rl_tm hfin hrn.1 hns), fun j hj => by rw [z_u_ne (by omega)]; exact hfrF j hj⟩ dX7_passesOne_246
                  · skip
                    refine z_aload_n C 2 dX7_passesOne_205 rfl ?_
                    refine z_iload_n C 3 dX7_passesOne_206 rfl ?_
                    refine z_callVi C [0, 1] [(hM, .inr (7, [.ref aS, .ref aPa, .int (z_I kn), .ref aSl, .ref aSv, .ref aPd, .int (z_I ln)])), (aS, z_ai cI 712 g2)] [.int (z_I b)] [] (c_X7_allOnWay l D cI cZ cO hM aS aPa aSl aSv aPd kn ln g2 b (by first | assumption | omega) (by omega)) gX7_passesOne_X7_allOnWay rfl zd_X7_allOnWay rfl (by decide) rfl rfl rfl (by decide) rfl rfl rfl (Nat.le_of_ble_eq_true rfl) (by decide) dX7_passesOne_207 ?_
                    refine z_if_ne C 233 dX7_passesOne_210 (by decide) (by rw [hall]; omega) (fun hc19 => ?_) (fun hc19 => ?_)
                    · skip
                      have hcl : ¬ z_ncl ct r := fun q => hc19 (by rw [hall]; exact q.2.1)
                      have hfin := hX
                      have hfrF := hfr3
                      have hxt : g2 (b + 2) = ct.1.1 := hfin.1.2.2.1
                      refine z_aload_n C 2 dX7_passesOne_233 rfl ?_
                      refine z_get C 0 0 zi_X7_passesOne_X7 rfl rfl (by decide) zl_X7_passesOne_7 rfl rfl dX7_passesOne_234 ?_
                      refine z_iload_n C 3 dX7_passesOne_237 rfl ?_
                      refine z_iconst C 2 dX7_passesOne_238 ?_
                      refine z_iadd C dX7_passesOne_239 ?_
                      refine z_dup2 C dX7_passesOne_240 rfl rfl ?_
                      refine z_iald C 1 0 rfl rfl (by decide) (by omega) dX7_passesOne_241 ?_
                      refine z_iconst C 1 dX7_passesOne_242 ?_
                      refine z_iadd C dX7_passesOne_243 ?_
                      refine z_iast C 1 0 ([(hM, .inr (7, [.ref aS, .ref aPa, .int (z_I kn), .ref aSl, .ref aSv, .ref aPd, .int (z_I ln)])), (aS, z_ai cI 712 (z_u g2 (b + 2) ((g2 (b + 2)) + 1)))]) rfl rfl (by decide) (by omega) rfl dX7_passesOne_244 ?_
                      refine z_iload_n C 1 dX7_passesOne_245 rfl ?_
                      exact z_irete C hQ (z_u g2 (b + 2) ((g2 (b + 2)) + 1)) rfl ⟨by rw [hrR], by rw [show z_nano ct = z_nanoR ct r by rw [z_nano, hrR], hxt]; first | (rw [z_nanoR_c hcl]; exact z_rl_tm hfin (by show 0 ≤ ct.2.1.1 + 1; omega) hns) | (rw [z_nanoR_n hcl]; exact z_rl_tm hfin hrn.1 hns), fun j hj => by rw [z_u_ne (by omega)]; exact hfrF j hj⟩ dX7_passesOne_246
                    · skip
                      refine z_iload_n C 0 dX7_passesOne_213 rfl ?_
                      refine z_if_eq C 233 dX7_passesOne_214 (by decide) (by omega) (fun hc20 => ?_) (fun hc20 => ?_)
                      · first
                        | (exfalso; omega)
                        | skip
                          have hcl : ¬ z_ncl ct r := fun q => by have q2 := q.2.2; omega
                          have hfin := hX
                          have hfrF := hfr3
                          have hxt : g2 (b + 2) = ct.1.1 := hfin.1.2.2.1
                          refine z_aload_n C 2 dX7_passesOne_233 rfl ?_
                          refine z_get C 0 0 zi_X7_passesOne_X7 rfl rfl (by decide) zl_X7_passesOne_7 rfl rfl dX7_passesOne_234 ?_
                          refine z_iload_n C 3 dX7_passesOne_237 rfl ?_
                          refine z_iconst C 2 dX7_passesOne_238 ?_
                          refine z_iadd C dX7_passesOne_239 ?_
                          refine z_dup2 C dX7_passesOne_240 rfl rfl ?_
                          refine z_iald C 1 0 rfl rfl (by decide) (by omega) dX7_passesOne_241 ?_
                          refine z_iconst C 1 dX7_passesOne_242 ?_
                          refine z_iadd C dX7_passesOne_243 ?_
                          refine z_iast C 1 0 ([(hM, .inr (7, [.ref aS, .ref aPa, .int (z_I kn), .ref aSl, .ref aSv, .ref aPd, .int (z_I ln)])), (aS, z_ai cI 712 (z_u g2 (b + 2) ((g2 (b + 2)) + 1)))]) rfl rfl (by decide) (by omega) rfl dX7_passesOne_244 ?_
                          refine z_iload_n C 1 dX7_passesOne_245 rfl ?_
                          exact z_irete C hQ (z_u g2 (b + 2) ((g2 (b + 2)) + 1)) rfl ⟨by rw [hrR], by rw [show z_nano ct = z_nanoR ct r by rw [z_nano, hrR], hxt]; first | (rw [z_nanoR_c hcl]; exact z_rl_tm hfin (by show 0 ≤ ct.2.1.1 + 1; omega) hns) | (rw [z_nanoR_n hcl]; exact z_rl_tm hfin hrn.1 hns), fun j hj => by rw [z_u_ne (by omega)]; exact hfrF j hj⟩ dX7_passesOne_246
                      · first
                        | (exfalso; omega)
                        | skip
                          have hcl : z_ncl ct r := ⟨by omega, by rw [← hall]; omega, by omega⟩
                          refine z_aload_n C 2 dX7_passesOne_217 rfl ?_
                          refine z_get C 0 0 zi_X7_passesOne_X7 rfl rfl (by decide) zl_X7_passesOne_7 rfl rfl dX7_passesOne_218 ?_
                          refine z_iload_n C 3 dX7_passesOne_221 rfl ?_
                          refine z_bipush C 6 dX7_passesOne_222 (by decide) ?_
                          refine z_iadd C dX7_passesOne_224 ?_
                          refine z_iconst C 0 dX7_passesOne_225 ?_
                          refine z_iast C 1 0 ([(hM, .inr (7, [.ref aS, .ref aPa, .int (z_I kn), .ref aSl, .ref aSv, .ref aPd, .int (z_I ln)])), (aS, z_ai cI 712 (z_u g2 (b + 6) 0))]) rfl rfl (by decide) (by omega) rfl dX7_passesOne_226 ?_
                          refine z_aload_n C 2 dX7_passesOne_227 rfl ?_
                          refine z_iload_n C 3 dX7_passesOne_228 rfl ?_
                          refine z_iconst C 1 dX7_passesOne_229 ?_
                          refine z_callEv C [0, 1] (fun u2 => [(hM, .inr (7, [.ref aS, .ref aPa, .int (z_I kn), .ref aSl, .ref aSv, .ref aPd, .int (z_I ln)])), (aS, z_ai cI 712 u2)]) [.int (z_I b), .int (z_I 1)] [] (c_X7_reads l D cI cZ cO hM aS aPa aSl aSv aPd kn ln (z_u g2 (b + 6) 0) b ((ct.1.1, ct.1.2.1, r.2.1, ct.1.2.2.2.1, ct.1.2.2.2.2.1, r.2.2.2.1, ct.1.2.2.2.2.2.2), ct.2.1, (z_nsg ct r), ct.2.2.2.1, ct.2.2.2.2.1, ct.2.2.2.2.2.1, (z_nld ct r), 0) (fun _ _ => True) (fun j x => r.2.2.2.2 (j * 21 + (ct.1.1 + 1 + x) % 21)) 1 (by first | assumption | omega) (z_rl_lw hX hrn.1 hns) hst hrsh (by show 0 ≤ ct.2.1.1 ∧ ct.2.1.1 < 99; omega)) gX7_passesOne_X7_reads rfl zd_X7_reads rfl (by decide) rfl rfl rfl (by decide) (fun _ => rfl) (fun _ => rfl) rfl (Nat.le_of_ble_eq_true rfl) (by decide) dX7_passesOne_230 (fun u2 hp2 => ?_)
                          have hfin := hp2.1
                          have hfrF : z_fr b f u2 := fun j hj => by rw [hp2.2 j hj, z_u_ne (by omega)]; exact hfr3 j hj
                          have hxt : u2 (b + 2) = ct.1.1 := hfin.1.2.2.1
                          refine z_aload_n C 2 dX7_passesOne_233 rfl ?_
                          refine z_get C 0 0 zi_X7_passesOne_X7 rfl rfl (by decide) zl_X7_passesOne_7 rfl rfl dX7_passesOne_234 ?_
                          refine z_iload_n C 3 dX7_passesOne_237 rfl ?_
                          refine z_iconst C 2 dX7_passesOne_238 ?_
                          refine z_iadd C dX7_passesOne_239 ?_
                          refine z_dup2 C dX7_passesOne_240 rfl rfl ?_
                          refine z_iald C 1 0 rfl rfl (by decide) (by omega) dX7_passesOne_241 ?_
                          refine z_iconst C 1 dX7_passesOne_242 ?_
                          refine z_iadd C dX7_passesOne_243 ?_
                          refine z_iast C 1 0 ([(hM, .inr (7, [.ref aS, .ref aPa, .int (z_I kn), .ref aSl, .ref aSv, .ref aPd, .int (z_I ln)])), (aS, z_ai cI 712 (z_u u2 (b + 2) ((u2 (b + 2)) + 1)))]) rfl rfl (by decide) (by omega) rfl dX7_passesOne_244 ?_
                          refine z_iload_n C 1 dX7_passesOne_245 rfl ?_
                          exact z_irete C hQ (z_u u2 (b + 2) ((u2 (b + 2)) + 1)) rfl ⟨by rw [hrR], by rw [show z_nano ct = z_nanoR ct r by rw [z_nano, hrR], hxt]; first | (rw [z_nanoR_c hcl]; exact z_rl_tm hfin (by show 0 ≤ ct.2.1.1 + 1; omega) hns) | (rw [z_nanoR_n hcl]; exact z_rl_tm hfin hrn.1 hns), fun j hj => by rw [z_u_ne (by omega)]; exact hfrF j hj⟩ dX7_passesOne_246
                · skip
                  refine z_aload_n C 2 dX7_passesOne_156 rfl ?_
                  refine z_get C 0 0 zi_X7_passesOne_X7 rfl rfl (by decide) zl_X7_passesOne_7 rfl rfl dX7_passesOne_157 ?_
                  refine z_iload_n C 3 dX7_passesOne_160 rfl ?_
                  refine z_iconst C 2 dX7_passesOne_161 ?_
                  refine z_iadd C dX7_passesOne_162 ?_
                  refine z_iald C 1 0 rfl rfl (by decide) (by omega) dX7_passesOne_163 ?_
                  refine z_aload_n C 2 dX7_passesOne_164 rfl ?_
                  refine z_get C 0 0 zi_X7_passesOne_X7 rfl rfl (by decide) zl_X7_passesOne_7 rfl rfl dX7_passesOne_165 ?_
                  refine z_iload_n C 3 dX7_passesOne_168 rfl ?_
                  refine z_iconst C 5 dX7_passesOne_169 ?_
                  refine z_iadd C dX7_passesOne_170 ?_
                  refine z_iald C 1 0 rfl rfl (by decide) (by omega) dX7_passesOne_171 ?_
                  refine z_isub C dX7_passesOne_172 ?_
                  refine z_aload_n C 2 dX7_passesOne_173 rfl ?_
                  refine z_get C 0 0 zi_X7_passesOne_X7 rfl rfl (by decide) zl_X7_passesOne_7 rfl rfl dX7_passesOne_174 ?_
                  refine z_iload_n C 3 dX7_passesOne_177 rfl ?_
                  refine z_iconst C 0 dX7_passesOne_178 ?_
                  refine z_iadd C dX7_passesOne_179 ?_
                  refine z_iconst C 1 dX7_passesOne_180 ?_
                  refine z_iadd C dX7_passesOne_181 ?_
                  refine z_iald C 1 0 rfl rfl (by decide) (by omega) dX7_passesOne_182 ?_
                  refine z_icmp_lt C 190 dX7_passesOne_183 (by decide) (by omega) (by omega) (fun hc21 => ?_) (fun hc21 => ?_)
                  · skip
                    refine z_iconst C 0 dX7_passesOne_190 ?_
                    refine z_istore_n C [(3, .int (z_I 0)), (2, .int (z_I r.1)), (0, .ref hM), (1, .int (z_I b))] dX7_passesOne_191 (by decide) rfl ?_
                    refine z_aload_n C 2 dX7_passesOne_192 rfl ?_
                    refine z_get C 0 0 zi_X7_passesOne_X7 rfl rfl (by decide) zl_X7_passesOne_7 rfl rfl dX7_passesOne_193 ?_
                    refine z_iload_n C 3 dX7_passesOne_196 rfl ?_
                    refine z_bipush C 6 dX7_passesOne_197 (by decide) ?_
                    refine z_iadd C dX7_passesOne_199 ?_
                    refine z_iald C 1 0 rfl rfl (by decide) (by omega) dX7_passesOne_200 ?_
                    refine z_iconst C 1 dX7_passesOne_201 ?_
                    refine z_icmp_ne C 233 dX7_passesOne_202 (by decide) (by omega) (by omega) (fun hc22 => ?_) (fun hc22 => ?_)
                    · skip
                      have hcl : ¬ z_ncl ct r := fun q => q.1 (by omega)
                      have hfin := hX
                      have hfrF := hfr3
                      have hxt : g2 (b + 2) = ct.1.1 := hfin.1.2.2.1
                      refine z_aload_n C 2 dX7_passesOne_233 rfl ?_
                      refine z_get C 0 0 zi_X7_passesOne_X7 rfl rfl (by decide) zl_X7_passesOne_7 rfl rfl dX7_passesOne_234 ?_
                      refine z_iload_n C 3 dX7_passesOne_237 rfl ?_
                      refine z_iconst C 2 dX7_passesOne_238 ?_
                      refine z_iadd C dX7_passesOne_239 ?_
                      refine z_dup2 C dX7_passesOne_240 rfl rfl ?_
                      refine z_iald C 1 0 rfl rfl (by decide) (by omega) dX7_passesOne_241 ?_
                      refine z_iconst C 1 dX7_passesOne_242 ?_
                      refine z_iadd C dX7_passesOne_243 ?_
                      refine z_iast C 1 0 ([(hM, .inr (7, [.ref aS, .ref aPa, .int (z_I kn), .ref aSl, .ref aSv, .ref aPd, .int (z_I ln)])), (aS, z_ai cI 712 (z_u g2 (b + 2) ((g2 (b + 2)) + 1)))]) rfl rfl (by decide) (by omega) rfl dX7_passesOne_244 ?_
                      refine z_iload_n C 1 dX7_passesOne_245 rfl ?_
                      exact z_irete C hQ (z_u g2 (b + 2) ((g2 (b + 2)) + 1)) rfl ⟨by rw [hrR], by rw [show z_nano ct = z_nanoR ct r by rw [z_nano, hrR], hxt]; first | (rw [z_nanoR_c hcl]; exact z_rl_tm hfin (by show 0 ≤ ct.2.1.1 + 1; omega) hns) | (rw [z_nanoR_n hcl]; exact z_rl_tm hfin hrn.1 hns), fun j hj => by rw [z_u_ne (by omega)]; exact hfrF j hj⟩ dX7_passesOne_246
                    · skip
                      refine z_aload_n C 2 dX7_passesOne_205 rfl ?_
                      refine z_iload_n C 3 dX7_passesOne_206 rfl ?_
                      refine z_callVi C [0, 1] [(hM, .inr (7, [.ref aS, .ref aPa, .int (z_I kn), .ref aSl, .ref aSv, .ref aPd, .int (z_I ln)])), (aS, z_ai cI 712 g2)] [.int (z_I b)] [] (c_X7_allOnWay l D cI cZ cO hM aS aPa aSl aSv aPd kn ln g2 b (by first | assumption | omega) (by omega)) gX7_passesOne_X7_allOnWay rfl zd_X7_allOnWay rfl (by decide) rfl rfl rfl (by decide) rfl rfl rfl (Nat.le_of_ble_eq_true rfl) (by decide) dX7_passesOne_207 ?_
                      refine z_if_ne C 233 dX7_passesOne_210 (by decide) (by rw [hall]; omega) (fun hc23 => ?_) (fun hc23 => ?_)
                      · skip
                        have hcl : ¬ z_ncl ct r := fun q => hc23 (by rw [hall]; exact q.2.1)
                        have hfin := hX
                        have hfrF := hfr3
                        have hxt : g2 (b + 2) = ct.1.1 := hfin.1.2.2.1
                        refine z_aload_n C 2 dX7_passesOne_233 rfl ?_
                        refine z_get C 0 0 zi_X7_passesOne_X7 rfl rfl (by decide) zl_X7_passesOne_7 rfl rfl dX7_passesOne_234 ?_
                        refine z_iload_n C 3 dX7_passesOne_237 rfl ?_
                        refine z_iconst C 2 dX7_passesOne_238 ?_
                        refine z_iadd C dX7_passesOne_239 ?_
                        refine z_dup2 C dX7_passesOne_240 rfl rfl ?_
                        refine z_iald C 1 0 rfl rfl (by decide) (by omega) dX7_passesOne_241 ?_
                        refine z_iconst C 1 dX7_passesOne_242 ?_
                        refine z_iadd C dX7_passesOne_243 ?_
                        refine z_iast C 1 0 ([(hM, .inr (7, [.ref aS, .ref aPa, .int (z_I kn), .ref aSl, .ref aSv, .ref aPd, .int (z_I ln)])), (aS, z_ai cI 712 (z_u g2 (b + 2) ((g2 (b + 2)) + 1)))]) rfl rfl (by decide) (by omega) rfl dX7_passesOne_244 ?_
                        refine z_iload_n C 1 dX7_passesOne_245 rfl ?_
                        exact z_irete C hQ (z_u g2 (b + 2) ((g2 (b + 2)) + 1)) rfl ⟨by rw [hrR], by rw [show z_nano ct = z_nanoR ct r by rw [z_nano, hrR], hxt]; first | (rw [z_nanoR_c hcl]; exact z_rl_tm hfin (by show 0 ≤ ct.2.1.1 + 1; omega) hns) | (rw [z_nanoR_n hcl]; exact z_rl_tm hfin hrn.1 hns), fun j hj => by rw [z_u_ne (by omega)]; exact hfrF j hj⟩ dX7_passesOne_246
                      · skip
                        refine z_iload_n C 0 dX7_passesOne_213 rfl ?_
                        refine z_if_eq C 233 dX7_passesOne_214 (by decide) (by omega) (fun hc24 => ?_) (fun hc24 => ?_)
                        · first
                          | (exfalso; omega)
                          | skip
                            have hcl : ¬ z_ncl ct r := fun q => by have q2 := q.2.2; omega
                            have hfin := hX
                            have hfrF := hfr3
                            have hxt : g2 (b + 2) = ct.1.1 := hfin.1.2.2.1
                            refine z_aload_n C 2 dX7_passesOne_233 rfl ?_
                            refine z_get C 0 0 zi_X7_passesOne_X7 rfl rfl (by decide) zl_X7_passesOne_7 rfl rfl dX7_passesOne_234 ?_
                            refine z_iload_n C 3 dX7_passesOne_237 rfl ?_
                            refine z_iconst C 2 dX7_passesOne_238 ?_
                            refine z_iadd C dX7_passesOne_239 ?_
                            refine z_dup2 C dX7_passesOne_240 rfl rfl ?_
                            refine z_iald C 1 0 rfl rfl (by decide) (by omega) dX7_passesOne_241 ?_
                            refine z_iconst C 1 dX7_passesOne_242 ?_
                            refine z_iadd C dX7_passesOne_243 ?_
                            refine z_iast C 1 0 ([(hM, .inr (7, [.ref aS, .ref aPa, .int (z_I kn), .ref aSl, .ref aSv, .ref aPd, .int (z_I ln)])), (aS, z_ai cI 712 (z_u g2 (b + 2) ((g2 (b + 2)) + 1)))]) rfl rfl (by decide) (by omega) rfl dX7_passesOne_244 ?_
                            refine z_iload_n C 1 dX7_passesOne_245 rfl ?_
                            exact z_irete C hQ (z_u g2 (b + 2) ((g2 (b + 2)) + 1)) rfl ⟨by rw [hrR], by rw [show z_nano ct = z_nanoR ct r by rw [z_nano, hrR], hxt]; first | (rw [z_nanoR_c hcl]; exact z_rl_tm hfin (by show 0 ≤ ct.2.1.1 + 1; omega) hns) | (rw [z_nanoR_n hcl]; exact z_rl_tm hfin hrn.1 hns), fun j hj => by rw [z_u_ne (by omega)]; exact hfrF j hj⟩ dX7_passesOne_246
                        · first
                          | (exfalso; omega)
                          | skip
                            have hcl : z_ncl ct r := ⟨by omega, by rw [← hall]; omega, by omega⟩
                            refine z_aload_n C 2 dX7_passesOne_217 rfl ?_
                            refine z_get C 0 0 zi_X7_passesOne_X7 rfl rfl (by decide) zl_X7_passesOne_7 rfl rfl dX7_passesOne_218 ?_
                            refine z_iload_n C 3 dX7_passesOne_221 rfl ?_
                            refine z_bipush C 6 dX7_passesOne_222 (by decide) ?_
                            refine z_iadd C dX7_passesOne_224 ?_
                            refine z_iconst C 0 dX7_passesOne_225 ?_
                            refine z_iast C 1 0 ([(hM, .inr (7, [.ref aS, .ref aPa, .int (z_I kn), .ref aSl, .ref aSv, .ref aPd, .int (z_I ln)])), (aS, z_ai cI 712 (z_u g2 (b + 6) 0))]) rfl rfl (by decide) (by omega) rfl dX7_passesOne_226 ?_
                            refine z_aload_n C 2 dX7_passesOne_227 rfl ?_
                            refine z_iload_n C 3 dX7_passesOne_228 rfl ?_
                            refine z_iconst C 1 dX7_passesOne_229 ?_
                            refine z_callEv C [0, 1] (fun u2 => [(hM, .inr (7, [.ref aS, .ref aPa, .int (z_I kn), .ref aSl, .ref aSv, .ref aPd, .int (z_I ln)])), (aS, z_ai cI 712 u2)]) [.int (z_I b), .int (z_I 1)] [] (c_X7_reads l D cI cZ cO hM aS aPa aSl aSv aPd kn ln (z_u g2 (b + 6) 0) b ((ct.1.1, ct.1.2.1, r.2.1, ct.1.2.2.2.1, ct.1.2.2.2.2.1, r.2.2.2.1, ct.1.2.2.2.2.2.2), ct.2.1, (z_nsg ct r), ct.2.2.2.1, ct.2.2.2.2.1, ct.2.2.2.2.2.1, (z_nld ct r), 0) (fun _ _ => True) (fun j x => r.2.2.2.2 (j * 21 + (ct.1.1 + 1 + x) % 21)) 1 (by first | assumption | omega) (z_rl_lw hX hrn.1 hns) hst hrsh (by show 0 ≤ ct.2.1.1 ∧ ct.2.1.1 < 99; omega)) gX7_passesOne_X7_reads rfl zd_X7_reads rfl (by decide) rfl rfl rfl (by decide) (fun _ => rfl) (fun _ => rfl) rfl (Nat.le_of_ble_eq_true rfl) (by decide) dX7_passesOne_230 (fun u2 hp2 => ?_)
                            have hfin := hp2.1
                            have hfrF : z_fr b f u2 := fun j hj => by rw [hp2.2 j hj, z_u_ne (by omega)]; exact hfr3 j hj
                            have hxt : u2 (b + 2) = ct.1.1 := hfin.1.2.2.1
                            refine z_aload_n C 2 dX7_passesOne_233 rfl ?_
                            refine z_get C 0 0 zi_X7_passesOne_X7 rfl rfl (by decide) zl_X7_passesOne_7 rfl rfl dX7_passesOne_234 ?_
                            refine z_iload_n C 3 dX7_passesOne_237 rfl ?_
                            refine z_iconst C 2 dX7_passesOne_238 ?_
                            refine z_iadd C dX7_passesOne_239 ?_
                            refine z_dup2 C dX7_passesOne_240 rfl rfl ?_
                            refine z_iald C 1 0 rfl rfl (by decide) (by omega) dX7_passesOne_241 ?_
                            refine z_iconst C 1 dX7_passesOne_242 ?_
                            refine z_iadd C dX7_passesOne_243 ?_
                            refine z_iast C 1 0 ([(hM, .inr (7, [.ref aS, .ref aPa, .int (z_I kn), .ref aSl, .ref aSv, .ref aPd, .int (z_I ln)])), (aS, z_ai cI 712 (z_u u2 (b + 2) ((u2 (b + 2)) + 1)))]) rfl rfl (by decide) (by omega) rfl dX7_passesOne_244 ?_
                            refine z_iload_n C 1 dX7_passesOne_245 rfl ?_
                            exact z_irete C hQ (z_u u2 (b + 2) ((u2 (b + 2)) + 1)) rfl ⟨by rw [hrR], by rw [show z_nano ct = z_nanoR ct r by rw [z_nano, hrR], hxt]; first | (rw [z_nanoR_c hcl]; exact z_rl_tm hfin (by show 0 ≤ ct.2.1.1 + 1; omega) hns) | (rw [z_nanoR_n hcl]; exact z_rl_tm hfin hrn.1 hns), fun j hj => by rw [z_u_ne (by omega)]; exact hfrF j hj⟩ dX7_passesOne_246
                  · skip
                    refine z_iconst C 1 dX7_passesOne_186 ?_
                    refine z_goto C 191 dX7_passesOne_187 (by decide) ?_
                    refine z_istore_n C [(3, .int (z_I 1)), (2, .int (z_I r.1)), (0, .ref hM), (1, .int (z_I b))] dX7_passesOne_191 (by decide) rfl ?_
                    refine z_aload_n C 2 dX7_passesOne_192 rfl ?_
                    refine z_get C 0 0 zi_X7_passesOne_X7 rfl rfl (by decide) zl_X7_passesOne_7 rfl rfl dX7_passesOne_193 ?_
                    refine z_iload_n C 3 dX7_passesOne_196 rfl ?_
                    refine z_bipush C 6 dX7_passesOne_197 (by decide) ?_
                    refine z_iadd C dX7_passesOne_199 ?_
                    refine z_iald C 1 0 rfl rfl (by decide) (by omega) dX7_passesOne_200 ?_
                    refine z_iconst C 1 dX7_passesOne_201 ?_
                    refine z_icmp_ne C 233 dX7_passesOne_202 (by decide) (by omega) (by omega) (fun hc25 => ?_) (fun hc25 => ?_)
                    · skip
                      have hcl : ¬ z_ncl ct r := fun q => q.1 (by omega)
                      have hfin := hX
                      have hfrF := hfr3
                      have hxt : g2 (b + 2) = ct.1.1 := hfin.1.2.2.1
                      refine z_aload_n C 2 dX7_passesOne_233 rfl ?_
                      refine z_get C 0 0 zi_X7_passesOne_X7 rfl rfl (by decide) zl_X7_passesOne_7 rfl rfl dX7_passesOne_234 ?_
                      refine z_iload_n C 3 dX7_passesOne_237 rfl ?_
                      refine z_iconst C 2 dX7_passesOne_238 ?_
                      refine z_iadd C dX7_passesOne_239 ?_
                      refine z_dup2 C dX7_passesOne_240 rfl rfl ?_
                      refine z_iald C 1 0 rfl rfl (by decide) (by omega) dX7_passesOne_241 ?_
                      refine z_iconst C 1 dX7_passesOne_242 ?_
                      refine z_iadd C dX7_passesOne_243 ?_
                      refine z_iast C 1 0 ([(hM, .inr (7, [.ref aS, .ref aPa, .int (z_I kn), .ref aSl, .ref aSv, .ref aPd, .int (z_I ln)])), (aS, z_ai cI 712 (z_u g2 (b + 2) ((g2 (b + 2)) + 1)))]) rfl rfl (by decide) (by omega) rfl dX7_passesOne_244 ?_
                      refine z_iload_n C 1 dX7_passesOne_245 rfl ?_
                      exact z_irete C hQ (z_u g2 (b + 2) ((g2 (b + 2)) + 1)) rfl ⟨by rw [hrR], by rw [show z_nano ct = z_nanoR ct r by rw [z_nano, hrR], hxt]; first | (rw [z_nanoR_c hcl]; exact z_rl_tm hfin (by show 0 ≤ ct.2.1.1 + 1; omega) hns) | (rw [z_nanoR_n hcl]; exact z_rl_tm hfin hrn.1 hns), fun j hj => by rw [z_u_ne (by omega)]; exact hfrF j hj⟩ dX7_passesOne_246
                    · skip
                      refine z_aload_n C 2 dX7_passesOne_205 rfl ?_
                      refine z_iload_n C 3 dX7_passesOne_206 rfl ?_
                      refine z_callVi C [0, 1] [(hM, .inr (7, [.ref aS, .ref aPa, .int (z_I kn), .ref aSl, .ref aSv, .ref aPd, .int (z_I ln)])), (aS, z_ai cI 712 g2)] [.int (z_I b)] [] (c_X7_allOnWay l D cI cZ cO hM aS aPa aSl aSv aPd kn ln g2 b (by first | assumption | omega) (by omega)) gX7_passesOne_X7_allOnWay rfl zd_X7_allOnWay rfl (by decide) rfl rfl rfl (by decide) rfl rfl rfl (Nat.le_of_ble_eq_true rfl) (by decide) dX7_passesOne_207 ?_
                      refine z_if_ne C 233 dX7_passesOne_210 (by decide) (by rw [hall]; omega) (fun hc26 => ?_) (fun hc26 => ?_)
                      · skip
                        have hcl : ¬ z_ncl ct r := fun q => hc26 (by rw [hall]; exact q.2.1)
                        have hfin := hX
                        have hfrF := hfr3
                        have hxt : g2 (b + 2) = ct.1.1 := hfin.1.2.2.1
                        refine z_aload_n C 2 dX7_passesOne_233 rfl ?_
                        refine z_get C 0 0 zi_X7_passesOne_X7 rfl rfl (by decide) zl_X7_passesOne_7 rfl rfl dX7_passesOne_234 ?_
                        refine z_iload_n C 3 dX7_passesOne_237 rfl ?_
                        refine z_iconst C 2 dX7_passesOne_238 ?_
                        refine z_iadd C dX7_passesOne_239 ?_
                        refine z_dup2 C dX7_passesOne_240 rfl rfl ?_
                        refine z_iald C 1 0 rfl rfl (by decide) (by omega) dX7_passesOne_241 ?_
                        refine z_iconst C 1 dX7_passesOne_242 ?_
                        refine z_iadd C dX7_passesOne_243 ?_
                        refine z_iast C 1 0 ([(hM, .inr (7, [.ref aS, .ref aPa, .int (z_I kn), .ref aSl, .ref aSv, .ref aPd, .int (z_I ln)])), (aS, z_ai cI 712 (z_u g2 (b + 2) ((g2 (b + 2)) + 1)))]) rfl rfl (by decide) (by omega) rfl dX7_passesOne_244 ?_
                        refine z_iload_n C 1 dX7_passesOne_245 rfl ?_
                        exact z_irete C hQ (z_u g2 (b + 2) ((g2 (b + 2)) + 1)) rfl ⟨by rw [hrR], by rw [show z_nano ct = z_nanoR ct r by rw [z_nano, hrR], hxt]; first | (rw [z_nanoR_c hcl]; exact z_rl_tm hfin (by show 0 ≤ ct.2.1.1 + 1; omega) hns) | (rw [z_nanoR_n hcl]; exact z_rl_tm hfin hrn.1 hns), fun j hj => by rw [z_u_ne (by omega)]; exact hfrF j hj⟩ dX7_passesOne_246
                      · skip
                        refine z_iload_n C 0 dX7_passesOne_213 rfl ?_
                        refine z_if_eq C 233 dX7_passesOne_214 (by decide) (by omega) (fun hc27 => ?_) (fun hc27 => ?_)
                        · first
                          | (exfalso; omega)
                          | skip
                            have hcl : ¬ z_ncl ct r := fun q => by have q2 := q.2.2; omega
                            have hfin := hX
                            have hfrF := hfr3
                            have hxt : g2 (b + 2) = ct.1.1 := hfin.1.2.2.1
                            refine z_aload_n C 2 dX7_passesOne_233 rfl ?_
                            refine z_get C 0 0 zi_X7_passesOne_X7 rfl rfl (by decide) zl_X7_passesOne_7 rfl rfl dX7_passesOne_234 ?_
                            refine z_iload_n C 3 dX7_passesOne_237 rfl ?_
                            refine z_iconst C 2 dX7_passesOne_238 ?_
                            refine z_iadd C dX7_passesOne_239 ?_
                            refine z_dup2 C dX7_passesOne_240 rfl rfl ?_
                            refine z_iald C 1 0 rfl rfl (by decide) (by omega) dX7_passesOne_241 ?_
                            refine z_iconst C 1 dX7_passesOne_242 ?_
                            refine z_iadd C dX7_passesOne_243 ?_
                            refine z_iast C 1 0 ([(hM, .inr (7, [.ref aS, .ref aPa, .int (z_I kn), .ref aSl, .ref aSv, .ref aPd, .int (z_I ln)])), (aS, z_ai cI 712 (z_u g2 (b + 2) ((g2 (b + 2)) + 1)))]) rfl rfl (by decide) (by omega) rfl dX7_passesOne_244 ?_
                            refine z_iload_n C 1 dX7_passesOne_245 rfl ?_
                            exact z_irete C hQ (z_u g2 (b + 2) ((g2 (b + 2)) + 1)) rfl ⟨by rw [hrR], by rw [show z_nano ct = z_nanoR ct r by rw [z_nano, hrR], hxt]; first | (rw [z_nanoR_c hcl]; exact z_rl_tm hfin (by show 0 ≤ ct.2.1.1 + 1; omega) hns) | (rw [z_nanoR_n hcl]; exact z_rl_tm hfin hrn.1 hns), fun j hj => by rw [z_u_ne (by omega)]; exact hfrF j hj⟩ dX7_passesOne_246
                        · first
                          | (exfalso; omega)
                          | skip
                            have hcl : z_ncl ct r := ⟨by omega, by rw [← hall]; omega, by omega⟩
                            refine z_aload_n C 2 dX7_passesOne_217 rfl ?_
                            refine z_get C 0 0 zi_X7_passesOne_X7 rfl rfl (by decide) zl_X7_passesOne_7 rfl rfl dX7_passesOne_218 ?_
                            refine z_iload_n C 3 dX7_passesOne_221 rfl ?_
                            refine z_bipush C 6 dX7_passesOne_222 (by decide) ?_
                            refine z_iadd C dX7_passesOne_224 ?_
                            refine z_iconst C 0 dX7_passesOne_225 ?_
                            refine z_iast C 1 0 ([(hM, .inr (7, [.ref aS, .ref aPa, .int (z_I kn), .ref aSl, .ref aSv, .ref aPd, .int (z_I ln)])), (aS, z_ai cI 712 (z_u g2 (b + 6) 0))]) rfl rfl (by decide) (by omega) rfl dX7_passesOne_226 ?_
                            refine z_aload_n C 2 dX7_passesOne_227 rfl ?_
                            refine z_iload_n C 3 dX7_passesOne_228 rfl ?_
                            refine z_iconst C 1 dX7_passesOne_229 ?_
                            refine z_callEv C [0, 1] (fun u2 => [(hM, .inr (7, [.ref aS, .ref aPa, .int (z_I kn), .ref aSl, .ref aSv, .ref aPd, .int (z_I ln)])), (aS, z_ai cI 712 u2)]) [.int (z_I b), .int (z_I 1)] [] (c_X7_reads l D cI cZ cO hM aS aPa aSl aSv aPd kn ln (z_u g2 (b + 6) 0) b ((ct.1.1, ct.1.2.1, r.2.1, ct.1.2.2.2.1, ct.1.2.2.2.2.1, r.2.2.2.1, ct.1.2.2.2.2.2.2), ct.2.1, (z_nsg ct r), ct.2.2.2.1, ct.2.2.2.2.1, ct.2.2.2.2.2.1, (z_nld ct r), 0) (fun _ _ => True) (fun j x => r.2.2.2.2 (j * 21 + (ct.1.1 + 1 + x) % 21)) 1 (by first | assumption | omega) (z_rl_lw hX hrn.1 hns) hst hrsh (by show 0 ≤ ct.2.1.1 ∧ ct.2.1.1 < 99; omega)) gX7_passesOne_X7_reads rfl zd_X7_reads rfl (by decide) rfl rfl rfl (by decide) (fun _ => rfl) (fun _ => rfl) rfl (Nat.le_of_ble_eq_true rfl) (by decide) dX7_passesOne_230 (fun u2 hp2 => ?_)
                            have hfin := hp2.1
                            have hfrF : z_fr b f u2 := fun j hj => by rw [hp2.2 j hj, z_u_ne (by omega)]; exact hfr3 j hj
                            have hxt : u2 (b + 2) = ct.1.1 := hfin.1.2.2.1
                            refine z_aload_n C 2 dX7_passesOne_233 rfl ?_
                            refine z_get C 0 0 zi_X7_passesOne_X7 rfl rfl (by decide) zl_X7_passesOne_7 rfl rfl dX7_passesOne_234 ?_
                            refine z_iload_n C 3 dX7_passesOne_237 rfl ?_
                            refine z_iconst C 2 dX7_passesOne_238 ?_
                            refine z_iadd C dX7_passesOne_239 ?_
                            refine z_dup2 C dX7_passesOne_240 rfl rfl ?_
                            refine z_iald C 1 0 rfl rfl (by decide) (by omega) dX7_passesOne_241 ?_
                            refine z_iconst C 1 dX7_passesOne_242 ?_
                            refine z_iadd C dX7_passesOne_243 ?_
                            refine z_iast C 1 0 ([(hM, .inr (7, [.ref aS, .ref aPa, .int (z_I kn), .ref aSl, .ref aSv, .ref aPd, .int (z_I ln)])), (aS, z_ai cI 712 (z_u u2 (b + 2) ((u2 (b + 2)) + 1)))]) rfl rfl (by decide) (by omega) rfl dX7_passesOne_244 ?_
                            refine z_iload_n C 1 dX7_passesOne_245 rfl ?_
                            exact z_irete C hQ (z_u u2 (b + 2) ((u2 (b + 2)) + 1)) rfl ⟨by rw [hrR], by rw [show z_nano ct = z_nanoR ct r by rw [z_nano, hrR], hxt]; first | (rw [z_nanoR_c hcl]; exact z_rl_tm hfin (by show 0 ≤ ct.2.1.1 + 1; omega) hns) | (rw [z_nanoR_n hcl]; exact z_rl_tm hfin hrn.1 hns), fun j hj => by rw [z_u_ne (by omega)]; exact hfrF j hj⟩ dX7_passesOne_246
              · skip
                refine z_iconst C 0 dX7_passesOne_84 ?_
                refine z_istore C [(4, .int (z_I 0)), (3, .int (z_I kk)), (2, .int (z_I r.1)), (0, .ref hM), (1, .int (z_I b))] dX7_passesOne_85 (by decide) rfl ?_
                have loop87 : ∀ (zn : Nat) (i2 : Int) (g3 : Int → Int), 0 ≤ i2 ∧ i2 ≤ 20 → z_rl ((ct.1.1, ct.1.2.1, r.2.1, ct.1.2.2.2.1, ct.1.2.2.2.2.1, r.2.2.2.1, ct.1.2.2.2.2.2.2), ct.2.1, (z_nsg ct r), ct.2.2.2.1, ct.2.2.2.2.1, ct.2.2.2.2.2.1, (z_nld ct r), ct.2.2.2.2.2.2.2) (z_pH ct kk i2) (z_eH ct r kk i2) b g3 → z_fr b f g3 → (20 - i2) < (zn : Int) → z_V p l e { frames := 3, cells := 0, slots := 0, locals := 69 } s m args below meth c D A 5 0 0 Q [(hM, .inr (7, [.ref aS, .ref aPa, .int (z_I kn), .ref aSl, .ref aSv, .ref aPd, .int (z_I ln)])), (aS, z_ai cI 712 g3)] 87 [(4, .int (z_I i2)), (3, .int (z_I kk)), (2, .int (z_I r.1)), (0, .ref hM), (1, .int (z_I b))] [] := by
                  intro zn
                  induction zn with
                  | zero => intro i2 g3 hi2 hg3l hfr4 hm87; exact absurd hm87 (by omega)
                  | succ zn87 ih87 =>
                    intro i2 g3 hi2 hg3l hfr4 hm87
                    refine z_iload C 0 dX7_passesOne_87 rfl ?_
                    refine z_bipush C 20 dX7_passesOne_89 (by decide) ?_
                    refine z_icmp_ge C 126 dX7_passesOne_91 (by decide) (by omega) (by omega) (fun hc28 => ?_) (fun hc28 => ?_)
                    · skip
                      have hi20 : i2 = 20 := by omega
                      refine z_aload_n C 3 dX7_passesOne_126 rfl ?_
                      refine z_get C 0 0 zi_X7_passesOne_X7 rfl rfl (by decide) zl_X7_passesOne_7 rfl rfl dX7_passesOne_127 ?_
                      refine z_iload_n C 4 dX7_passesOne_130 rfl ?_
                      refine z_iload_n C 1 dX7_passesOne_131 rfl ?_
                      refine z_bipush C 20 dX7_passesOne_132 (by decide) ?_
                      refine z_callSi C [] [(hM, .inr (7, [.ref aS, .ref aPa, .int (z_I kn), .ref aSl, .ref aSv, .ref aPd, .int (z_I ln)])), (aS, z_ai cI 712 g3)] [.int (z_I b), .int (z_I kk), .int (z_I 20)] [.ref aS] (c_X7_due l D cI cZ cO b kk 20 ) gX7_passesOne_X7_due rfl zd_X7_due rfl (by decide) rfl (by decide) rfl rfl rfl (Nat.le_of_ble_eq_true rfl) (by decide) dX7_passesOne_134 ?_
                      refine z_iconst C 0 dX7_passesOne_137 ?_
                      refine z_iast C 1 0 ([(hM, .inr (7, [.ref aS, .ref aPa, .int (z_I kn), .ref aSl, .ref aSv, .ref aPd, .int (z_I ln)])), (aS, z_ai cI 712 (z_u g3 (b + 24 + 21 * kk + 20) 0))]) rfl rfl (by decide) (by omega) rfl dX7_passesOne_138 ?_
                      refine z_iinc C 1 [(3, .int (z_I (kk + 1))), (4, .int (z_I i2)), (2, .int (z_I r.1)), (0, .ref hM), (1, .int (z_I b))] dX7_passesOne_139 rfl (by decide) rfl ?_
                      refine z_goto C 79 dX7_passesOne_142 (by decide) ?_
                      refine z_lsub [(3, .int (z_I (kk + 1))), (2, .int (z_I r.1)), (0, .ref hM), (1, .int (z_I b))] [0, 2, 3, 4] rfl ?_
                      exact ih79 (kk + 1) (z_u g3 (b + 24 + 21 * kk + 20) 0) (by first | assumption | omega) (by rw [hi20] at hg3l; exact z_rlH_n (z_rlH_s hg3l (by omega) (by omega) (by rw [if_pos rfl]) hrn.1 hns)) (fun j hj => by rw [z_u_ne (by omega)]; exact hfr4 j hj) (by omega)
                    · skip
                      refine z_aload_n C 3 dX7_passesOne_94 rfl ?_
                      refine z_get C 0 0 zi_X7_passesOne_X7 rfl rfl (by decide) zl_X7_passesOne_7 rfl rfl dX7_passesOne_95 ?_
                      refine z_iload_n C 4 dX7_passesOne_98 rfl ?_
                      refine z_iload_n C 1 dX7_passesOne_99 rfl ?_
                      refine z_iload C 0 dX7_passesOne_100 rfl ?_
                      refine z_callSi C [] [(hM, .inr (7, [.ref aS, .ref aPa, .int (z_I kn), .ref aSl, .ref aSv, .ref aPd, .int (z_I ln)])), (aS, z_ai cI 712 g3)] [.int (z_I b), .int (z_I kk), .int (z_I i2)] [.ref aS] (c_X7_due l D cI cZ cO b kk i2 ) gX7_passesOne_X7_due rfl zd_X7_due rfl (by decide) rfl (by decide) rfl rfl rfl (Nat.le_of_ble_eq_true rfl) (by decide) dX7_passesOne_102 ?_
                      refine z_aload_n C 3 dX7_passesOne_105 rfl ?_
                      refine z_get C 0 0 zi_X7_passesOne_X7 rfl rfl (by decide) zl_X7_passesOne_7 rfl rfl dX7_passesOne_106 ?_
                      refine z_iload_n C 4 dX7_passesOne_109 rfl ?_
                      refine z_iload_n C 1 dX7_passesOne_110 rfl ?_
                      refine z_iload C 0 dX7_passesOne_111 rfl ?_
                      refine z_iconst C 1 dX7_passesOne_113 ?_
                      refine z_iadd C dX7_passesOne_114 ?_
                      refine z_callSi C [] [(hM, .inr (7, [.ref aS, .ref aPa, .int (z_I kn), .ref aSl, .ref aSv, .ref aPd, .int (z_I ln)])), (aS, z_ai cI 712 g3)] [.int (z_I b), .int (z_I kk), .int (z_I (i2 + 1))] [.ref aS, .int (z_I (b + 24 + 21 * kk + i2)), .ref aS] (c_X7_due l D cI cZ cO b kk (i2 + 1) ) gX7_passesOne_X7_due rfl zd_X7_due rfl (by decide) rfl (by decide) rfl rfl rfl (Nat.le_of_ble_eq_true rfl) (by decide) dX7_passesOne_115 ?_
                      refine z_iald C 1 0 rfl rfl (by decide) (by omega) dX7_passesOne_118 ?_
                      refine z_iast C 1 0 ([(hM, .inr (7, [.ref aS, .ref aPa, .int (z_I kn), .ref aSl, .ref aSv, .ref aPd, .int (z_I ln)])), (aS, z_ai cI 712 (z_u g3 (b + 24 + 21 * kk + i2) (g3 (b + 24 + 21 * kk + (i2 + 1)))))]) rfl rfl (by decide) (by omega) rfl dX7_passesOne_119 ?_
                      refine z_iinc C 0 [(4, .int (z_I (i2 + 1))), (3, .int (z_I kk)), (2, .int (z_I r.1)), (0, .ref hM), (1, .int (z_I b))] dX7_passesOne_120 rfl (by decide) rfl ?_
                      refine z_goto C 87 dX7_passesOne_123 (by decide) ?_
                      exact ih87 (i2 + 1) (z_u g3 (b + 24 + 21 * kk + i2) (g3 (b + 24 + 21 * kk + (i2 + 1)))) (by first | assumption | omega) (z_rlH_s hg3l (by omega) (by omega) (by rw [if_neg (by omega)]) hrn.1 hns) (fun j hj => by rw [z_u_ne (by omega)]; exact hfr4 j hj) (by omega)
                exact loop87 21 0 g2 (by first | assumption | omega) hg2l hfr3 (by omega)
          exact loop79 6 0 u1 (by first | assumption | omega) (z_rlH_0 hQ1) hfq (by omega)
      · skip
        have hmm : g (b + 24 + 21 * k + 0) = (r.2.2.2.2 (k * 21 + ct.1.1 % 21)) := by
          rw [hgl.2.2.1 k 0 hk.1 (by omega) (by omega) (by omega) (Or.inr (by omega))]
          show r.2.2.2.2 (k * 21 + (ct.1.1 + 0) % 21) = _
          rw [Int.add_zero]
        have hmm0 : 0 ≤ (r.2.2.2.2 (k * 21 + ct.1.1 % 21)) := hrdu _ (by omega) (by omega)
        have hmmB := hrduB (k * 21 + ct.1.1 % 21) (by omega) (by omega)
        refine z_aload_n C 2 dX7_passesOne_13 rfl ?_
        refine z_get C 0 0 zi_X7_passesOne_X7 rfl rfl (by decide) zl_X7_passesOne_7 rfl rfl dX7_passesOne_14 ?_
        refine z_iload_n C 3 dX7_passesOne_17 rfl ?_
        refine z_iload_n C 0 dX7_passesOne_18 rfl ?_
        refine z_iconst C 0 dX7_passesOne_19 ?_
        refine z_callSi C [] [(hM, .inr (7, [.ref aS, .ref aPa, .int (z_I kn), .ref aSl, .ref aSv, .ref aPd, .int (z_I ln)])), (aS, z_ai cI 712 g)] [.int (z_I b), .int (z_I k), .int (z_I 0)] [.ref aS] (c_X7_due l D cI cZ cO b k 0 ) gX7_passesOne_X7_due rfl zd_X7_due rfl (by decide) rfl (by decide) rfl rfl rfl (Nat.le_of_ble_eq_true rfl) (by decide) dX7_passesOne_20 ?_
        refine z_iald C 1 0 rfl rfl (by decide) (by omega) dX7_passesOne_23 ?_
        rw [hmm]
        refine z_istore C [(4, .int (z_I (r.2.2.2.2 (k * 21 + ct.1.1 % 21)))), (3, .int (z_I k)), (2, .int (z_I r.1)), (0, .ref hM), (1, .int (z_I b))] dX7_passesOne_24 (by decide) rfl ?_
        have loop26 : ∀ (zn : Nat) (i : Int) (h : Int → Int), 0 ≤ i ∧ i ≤ (r.2.2.2.2 (k * 21 + ct.1.1 % 21)) → z_rl (z_cD ct r k i) (fun j x => ¬ x = 0 ∨ k ≤ j) (z_eD ct r k i) b h → z_fr b f h → ((r.2.2.2.2 (k * 21 + ct.1.1 % 21)) - i) < (zn : Int) → z_V p l e { frames := 3, cells := 0, slots := 0, locals := 69 } s m args below meth c D A 5 0 0 Q [(hM, .inr (7, [.ref aS, .ref aPa, .int (z_I kn), .ref aSl, .ref aSv, .ref aPd, .int (z_I ln)])), (aS, z_ai cI 712 h)] 26 [(4, .int (z_I ((r.2.2.2.2 (k * 21 + ct.1.1 % 21)) - i))), (3, .int (z_I k)), (2, .int (z_I (r.1 + i))), (0, .ref hM), (1, .int (z_I b))] [] := by
          intro zn
          induction zn with
          | zero => intro i h hi hhl hfr2 hm26; exact absurd hm26 (by omega)
          | succ zn26 ih26 =>
            intro i h hi hhl hfr2 hm26
            have hh0 : h b = ct.1.2.1 := hhl.1.1
            have hho1 := z_out01 hhl k (by omega) (by omega)
            have hhd : 0 ≤ h (b + 9 + (k + 1)) ∧ h (b + 9 + (k + 1)) ≤ 20 := by
              by_cases q : k + 1 < 5
              · have h9 : h (b + 9 + (k + 1)) = ct.1.2.2.2.2.1 (k + 1) := (hhl.2.1 (k + 1) (by omega) q).1
                have h8 := hdl (k + 1) (by omega) q
                omega
              · have h9 := z_out01 hhl 0 (by omega) (by omega)
                rw [show b + 9 + (k + 1) = b + 14 + 0 by omega]
                omega
            refine z_iload C 0 dX7_passesOne_26 rfl ?_
            refine z_if_le C 46 dX7_passesOne_28 (by decide) (by omega) (fun hc29 => ?_) (fun hc29 => ?_)
            · skip
              have hiM : i = (r.2.2.2.2 (k * 21 + ct.1.1 % 21)) := by omega
              refine z_iinc C 1 [(3, .int (z_I (k + 1))), (4, .int (z_I ((r.2.2.2.2 (k * 21 + ct.1.1 % 21)) - i))), (2, .int (z_I (r.1 + i))), (0, .ref hM), (1, .int (z_I b))] dX7_passesOne_46 rfl (by decide) rfl ?_
              refine z_goto C 4 dX7_passesOne_49 (by decide) ?_
              refine z_lsub [(3, .int (z_I (k + 1))), (2, .int (z_I (r.1 + i))), (0, .ref hM), (1, .int (z_I b))] [0, 2, 3, 4] rfl ?_
              refine z_lveq [(3, .int (z_I (k + 1))), (2, .int (z_I ((z_tdS ct.1.1 ct.1.2.1 ct.1.2.2.2.2.1 k r).1))), (0, .ref hM), (1, .int (z_I b))] (by rw [z_tdS_acc hmm0, ← hiM]) ?_
              exact ih4 (k + 1) (z_tdS ct.1.1 ct.1.2.1 ct.1.2.2.2.2.1 k r) h (by first | assumption | omega) (by rw [hr, z_it_next _ _ hk.1]) (by rw [hiM] at hhl; exact z_rlD_e hhl hst (by omega) ht0 hmm0 hdl) hfr2 (by omega)
            · skip
              refine z_aload_n C 3 dX7_passesOne_31 rfl ?_
              refine z_iload_n C 4 dX7_passesOne_32 rfl ?_
              refine z_iload_n C 1 dX7_passesOne_33 rfl ?_
              refine z_callVv C [0, 1] [(hM, .inr (7, [.ref aS, .ref aPa, .int (z_I kn), .ref aSl, .ref aSv, .ref aPd, .int (z_I ln)])), (aS, z_ai cI 712 (z_dn b k h))] [.int (z_I b), .int (z_I k)] [] (c_X7_done l D cI cZ cO hM aS aPa aSl aSv aPd kn ln h b k (by first | assumption | omega) (by omega) (by first | assumption | omega) hho1 hhd) gX7_passesOne_X7_done rfl zd_X7_done rfl (by decide) rfl rfl rfl (by decide) rfl rfl rfl (Nat.le_of_ble_eq_true rfl) (by decide) dX7_passesOne_34 ?_
              refine z_iinc C 2 [(2, .int (z_I ((r.1 + i) + 1))), (4, .int (z_I ((r.2.2.2.2 (k * 21 + ct.1.1 % 21)) - i))), (3, .int (z_I k)), (0, .ref hM), (1, .int (z_I b))] dX7_passesOne_37 rfl (by decide) rfl ?_
              refine z_iinc C 1 [(4, .int (z_I (((r.2.2.2.2 (k * 21 + ct.1.1 % 21)) - i) + (-1)))), (2, .int (z_I ((r.1 + i) + 1))), (3, .int (z_I k)), (0, .ref hM), (1, .int (z_I b))] dX7_passesOne_40 rfl (by decide) rfl ?_
              refine z_goto C 26 dX7_passesOne_43 (by decide) ?_
              refine z_lsub [(4, .int (z_I (((r.2.2.2.2 (k * 21 + ct.1.1 % 21)) - i) + (-1)))), (3, .int (z_I k)), (2, .int (z_I ((r.1 + i) + 1))), (0, .ref hM), (1, .int (z_I b))] [0, 2, 1, 3, 4] rfl ?_
              refine z_lveq [(4, .int (z_I ((r.2.2.2.2 (k * 21 + ct.1.1 % 21)) - (i + 1)))), (3, .int (z_I k)), (2, .int (z_I (r.1 + (i + 1)))), (0, .ref hM), (1, .int (z_I b))] (by rw [show (r.2.2.2.2 (k * 21 + ct.1.1 % 21)) - i + (-1) = (r.2.2.2.2 (k * 21 + ct.1.1 % 21)) - (i + 1) by omega, show r.1 + i + 1 = r.1 + (i + 1) by omega]) ?_
              exact ih26 (i + 1) (z_dn b k h) (by first | assumption | omega) (z_rlD_s hhl hst (by omega) hi.1 (by omega) hdl hrn.1 hsn.1) (fun j hj => by rw [z_dn_fr (by omega) (by omega) hhd j hj]; exact hfr2 j hj) (by omega)
        refine z_lveq [(4, .int (z_I ((r.2.2.2.2 (k * 21 + ct.1.1 % 21)) - 0))), (3, .int (z_I k)), (2, .int (z_I (r.1 + 0))), (0, .ref hM), (1, .int (z_I b))] (by rw [Int.sub_zero, Int.add_zero]) ?_
        exact loop26 ((r.2.2.2.2 (k * 21 + ct.1.1 % 21)).toNat + 1) 0 g (by first | assumption | omega) (z_rlD_0 hgl) hfr (by omega)
  refine z_lveq [(3, .int (z_I 0)), (2, .int (z_I ((0, ct.1.2.2.1, ct.1.2.2.2.1, ct.1.2.2.2.2.2.1, ct.1.2.2.2.2.2.2).1))), (0, .ref hM), (1, .int (z_I b))] rfl ?_
  exact loop4 (ct.1.2.1.toNat + 1) 0 (0, ct.1.2.2.1, ct.1.2.2.2.1, ct.1.2.2.2.2.2.1, ct.1.2.2.2.2.2.2) f (by first | assumption | omega) rfl (z_rlS_0 hrel) (fun j hj => rfl) (by omega)
