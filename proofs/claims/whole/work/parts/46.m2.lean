theorem zi_X7_reads_X7 : ∀ w ∈ u_ws RX7 TX7 7, w ∈ wsX7_reads := by decide +kernel
theorem zl_X7_reads_7 : Cond.fieldLink RX7 7 "RippleCountsModel" "s" "[I" ∈ wsX7_reads := by decide +kernel
theorem zd_X7_reads : yX7_reads.cls ≠ "java/lang/invoke/MethodHandle" ∧ yX7_reads.cls ≠ "java/lang/invoke/VarHandle" ∧ (parseMethodDescriptor yX7_reads.desc).map (fun d => d.parameters.length) = some 2 := by decide +kernel
set_option maxHeartbeats 4000000 in
set_option maxRecDepth 100000 in
theorem c_X7_reads (l : Launch) (D : va_G) (cI cZ cO : ClassId) (hM aS aPa aSl aSv aPd : Nat) (kn ln : Int) (f : Int → Int) (b : Int) (ct : z_Ct) (Pq : Int → Int → Prop) (eq0 : Int → Int → Int) (lt : Int) (hb : 0 ≤ b ∧ b ≤ 356) (hrl : z_rl ct Pq eq0 b f) (hst : 1 ≤ ct.1.2.1 ∧ ct.1.2.1 ≤ 5) (hsh : 0 ≤ ct.1.2.2.1 ∧ ct.1.2.2.1 < z_p2 ct.1.2.1) (hrn : 0 ≤ ct.2.1.1 ∧ ct.2.1.1 < 99) : z_Ev (Int → Int) l yX7_reads wsX7_reads 2 44 D (z_T cI cZ cO) [.ref hM, .int (z_I b), .int (z_I lt)] ([(hM, .inr (7, [.ref aS, .ref aPa, .int (z_I kn), .ref aSl, .ref aSv, .ref aPd, .int (z_I ln)])), (aS, z_ai cI 712 f)]) (fun u => [(hM, .inr (7, [.ref aS, .ref aPa, .int (z_I kn), .ref aSl, .ref aSv, .ref aPd, .int (z_I ln)])), (aS, z_ai cI 712 u)]) (fun u => z_rl (ct.1, (z_rad ct.2.1 ct.1.2.2.1 ct.1.1 ct.2.2.2.2.1 lt), ct.2.2.1, ct.2.2.2.1, ct.2.2.2.2.1, ct.2.2.2.2.2.1, ct.2.2.2.2.2.2.1, ct.2.2.2.2.2.2.2) Pq eq0 b u ∧ z_fr b f u) := by
  refine z_Ev_of (cc := cX7_reads) (nL := 3) (ret := none) (by decide +kernel) rfl (Nat.le_of_ble_eq_true rfl) ?_
  intro p e s m args below meth c A Q C hQ
  change z_V p l e { frames := 2, cells := 0, slots := 0, locals := 44 } s m args below meth c D A 3 0 0 Q ([(hM, .inr (7, [.ref aS, .ref aPa, .int (z_I kn), .ref aSl, .ref aSv, .ref aPd, .int (z_I ln)])), (aS, z_ai cI 712 f)]) 0 [(0, .ref hM), (1, .int (z_I b)), (2, .int (z_I lt))] []
  obtain ⟨y0, y1, y2, y3, y4, y5, y6, y7, y8⟩ := hrl.1
  have hp := z_p2_le (k := ct.1.2.1) (by omega)
  have h01 := z_out01 hrl
  have hshow := z_shows hrl hst hsh
  refine z_aload_n C 0 dX7_reads_0 rfl ?_
  refine z_get C 0 0 zi_X7_reads_X7 rfl rfl (by decide) zl_X7_reads_7 rfl rfl dX7_reads_1 ?_
  refine z_iload_n C 1 dX7_reads_4 rfl ?_
  refine z_sipush C 129 dX7_reads_5 (by decide) ?_
  refine z_iadd C dX7_reads_8 ?_
  refine z_aload_n C 0 dX7_reads_9 rfl ?_
  refine z_get C 0 0 zi_X7_reads_X7 rfl rfl (by decide) zl_X7_reads_7 rfl rfl dX7_reads_10 ?_
  refine z_iload_n C 1 dX7_reads_13 rfl ?_
  refine z_bipush C 7 dX7_reads_14 (by decide) ?_
  refine z_iadd C dX7_reads_16 ?_
  refine z_iald C 1 0 rfl rfl (by decide) (by omega) dX7_reads_17 ?_
  refine z_iadd C dX7_reads_18 ?_
  refine z_sipush C 2048 dX7_reads_19 (by decide) ?_
  refine z_aload_n C 0 dX7_reads_22 rfl ?_
  refine z_get C 0 0 zi_X7_reads_X7 rfl rfl (by decide) zl_X7_reads_7 rfl rfl dX7_reads_23 ?_
  refine z_iload_n C 1 dX7_reads_26 rfl ?_
  refine z_iconst C 2 dX7_reads_27 ?_
  refine z_iadd C dX7_reads_28 ?_
  refine z_iald C 1 0 rfl rfl (by decide) (by omega) dX7_reads_29 ?_
  refine z_imul C dX7_reads_30 ?_
  refine z_bipush C 64 dX7_reads_31 (by decide) ?_
  refine z_aload_n C 0 dX7_reads_33 rfl ?_
  refine z_iload_n C 1 dX7_reads_34 rfl ?_
  refine z_callVi C [0, 1] [(hM, .inr (7, [.ref aS, .ref aPa, .int (z_I kn), .ref aSl, .ref aSv, .ref aPd, .int (z_I ln)])), (aS, z_ai cI 712 f)] [.int (z_I b)] [.int (z_I 64), .int (z_I (2048 * (f (b + 2)))), .int (z_I ((b + 129) + (f (b + 7)))), .ref aS] (c_X7_shows l D cI cZ cO hM aS aPa aSl aSv aPd kn ln f b (by first | assumption | omega) (by omega) h01) gX7_reads_X7_shows rfl zd_X7_shows rfl (by decide) rfl rfl rfl (by decide) rfl rfl rfl (Nat.le_of_ble_eq_true rfl) (by decide) dX7_reads_35 ?_
  rw [hshow]
  refine z_imul C dX7_reads_38 ?_
  refine z_iadd C dX7_reads_39 ?_
  refine z_iconst C 2 dX7_reads_40 ?_
  refine z_aload_n C 0 dX7_reads_41 rfl ?_
  refine z_get C 0 0 zi_X7_reads_X7 rfl rfl (by decide) zl_X7_reads_7 rfl rfl dX7_reads_42 ?_
  refine z_iload_n C 1 dX7_reads_45 rfl ?_
  refine z_iconst C 3 dX7_reads_46 ?_
  refine z_iadd C dX7_reads_47 ?_
  refine z_iald C 1 0 rfl rfl (by decide) (by omega) dX7_reads_48 ?_
  refine z_imul C dX7_reads_49 ?_
  refine z_iadd C dX7_reads_50 ?_
  refine z_iload_n C 2 dX7_reads_51 rfl ?_
  refine z_iadd C dX7_reads_52 ?_
  refine z_iast C 1 0 ([(hM, .inr (7, [.ref aS, .ref aPa, .int (z_I kn), .ref aSl, .ref aSv, .ref aPd, .int (z_I ln)])), (aS, z_ai cI 712 (z_u f ((b + 129) + (f (b + 7))) ((((2048 * (f (b + 2))) + (64 * ct.1.2.2.1)) + (2 * (f (b + 3)))) + lt)))]) rfl rfl (by decide) (by omega) rfl dX7_reads_53 ?_
  refine z_aload_n C 0 dX7_reads_54 rfl ?_
  refine z_get C 0 0 zi_X7_reads_X7 rfl rfl (by decide) zl_X7_reads_7 rfl rfl dX7_reads_55 ?_
  refine z_iload_n C 1 dX7_reads_58 rfl ?_
  refine z_bipush C 7 dX7_reads_59 (by decide) ?_
  refine z_iadd C dX7_reads_61 ?_
  refine z_dup2 C dX7_reads_62 rfl rfl ?_
  refine z_iald C 1 0 rfl rfl (by decide) (by omega) dX7_reads_63 ?_
  refine z_iconst C 1 dX7_reads_64 ?_
  refine z_iadd C dX7_reads_65 ?_
  refine z_iast C 1 0 ([(hM, .inr (7, [.ref aS, .ref aPa, .int (z_I kn), .ref aSl, .ref aSv, .ref aPd, .int (z_I ln)])), (aS, z_ai cI 712 (z_u (z_u f ((b + 129) + (f (b + 7))) ((((2048 * (f (b + 2))) + (64 * ct.1.2.2.1)) + (2 * (f (b + 3)))) + lt)) (b + 7) (((z_u f ((b + 129) + (f (b + 7))) ((((2048 * (f (b + 2))) + (64 * ct.1.2.2.1)) + (2 * (f (b + 3)))) + lt)) (b + 7)) + 1)))]) rfl rfl (by decide) (by omega) rfl dX7_reads_66 ?_
  exact z_vrete C hQ (z_u (z_u f ((b + 129) + (f (b + 7))) ((((2048 * (f (b + 2))) + (64 * ct.1.2.2.1)) + (2 * (f (b + 3)))) + lt)) (b + 7) (((z_u f ((b + 129) + (f (b + 7))) ((((2048 * (f (b + 2))) + (64 * ct.1.2.2.1)) + (2 * (f (b + 3)))) + lt)) (b + 7)) + 1)) rfl ⟨z_rl_read hrl hrn (by rw [← y7]; (repeat (first | rw [z_u_same] | rw [z_u_ne (by omega)])); rw [y2, y3]) (by (repeat (first | rw [z_u_same] | rw [z_u_ne (by omega)])); rw [y7]) (fun j j1 j2 => by (repeat rw [z_u_ne (by omega)])), (fun j hj => by (repeat rw [z_u_ne (by omega)]))⟩ dX7_reads_67
theorem zi_X7_sees_X7 : ∀ w ∈ u_ws RX7 TX7 7, w ∈ wsX7_sees := by decide +kernel
theorem zl_X7_sees_7 : Cond.fieldLink RX7 7 "RippleCountsModel" "s" "[I" ∈ wsX7_sees := by decide +kernel
theorem zd_X7_sees : yX7_sees.cls ≠ "java/lang/invoke/MethodHandle" ∧ yX7_sees.cls ≠ "java/lang/invoke/VarHandle" ∧ (parseMethodDescriptor yX7_sees.desc).map (fun d => d.parameters.length) = some 1 := by decide +kernel
set_option maxHeartbeats 4000000 in
set_option maxRecDepth 100000 in
theorem c_X7_sees (l : Launch) (D : va_G) (cI cZ cO : ClassId) (hM aS aPa aSl aSv aPd : Nat) (kn ln : Int) (f : Int → Int) (b : Int) (ct : z_Ct) (Pq : Int → Int → Prop) (eq0 : Int → Int → Int) (hb : 0 ≤ b ∧ b ≤ 356) (hrl : z_rl ct Pq eq0 b f) (hst : 1 ≤ ct.1.2.1 ∧ ct.1.2.1 ≤ 5) (hsh : 0 ≤ ct.1.2.2.1 ∧ ct.1.2.2.1 < z_p2 ct.1.2.1) (hsok : z_sok ct.2.2.1 ct.1.1) (hck : 0 ≤ ct.2.2.2.2.1 ∧ ct.2.2.2.2.1 < z_p2 ct.1.2.1) (htt : 0 ≤ ct.1.1 ∧ ct.1.1 < 900000) (hrn : ct.2.1.1 ≤ 99) : z_Ev (Int → Int) l yX7_sees wsX7_sees 2 44 D (z_T cI cZ cO) [.ref hM, .int (z_I b)] ([(hM, .inr (7, [.ref aS, .ref aPa, .int (z_I kn), .ref aSl, .ref aSv, .ref aPd, .int (z_I ln)])), (aS, z_ai cI 712 f)]) (fun u => [(hM, .inr (7, [.ref aS, .ref aPa, .int (z_I kn), .ref aSl, .ref aSv, .ref aPd, .int (z_I ln)])), (aS, z_ai cI 712 u)]) (fun u => z_rl (ct.1, ct.2.1, (z_sad ct.2.2.1 ct.1.2.2.1 ct.1.1 (if ct.1.2.2.1 = ct.2.2.2.2.1 then 0 else 1)), ct.2.2.2.1, ct.2.2.2.2.1, ct.2.2.2.2.2.1, ct.2.2.2.2.2.2.1, ct.2.2.2.2.2.2.2) Pq eq0 b u ∧ z_fr b f u) := by
  refine z_Ev_of (cc := cX7_sees) (nL := 5) (ret := none) (by decide +kernel) rfl (Nat.le_of_ble_eq_true rfl) ?_
  intro p e s m args below meth c A Q C hQ
  change z_V p l e { frames := 2, cells := 0, slots := 0, locals := 44 } s m args below meth c D A 5 0 0 Q ([(hM, .inr (7, [.ref aS, .ref aPa, .int (z_I kn), .ref aSl, .ref aSv, .ref aPd, .int (z_I ln)])), (aS, z_ai cI 712 f)]) 0 [(0, .ref hM), (1, .int (z_I b))] []
  obtain ⟨y0, y1, y2, y3, y4, y5, y6, y7, y8⟩ := hrl.1
  have hp := z_p2_le (k := ct.1.2.1) (by omega)
  have h01 := z_out01 hrl
  have hshow := z_shows hrl hst hsh
  obtain ⟨hsn, hrk, hfo, hcnt, hinj, hsur⟩ := id hsok
  refine z_aload_n C 0 dX7_sees_0 rfl ?_
  refine z_iload_n C 1 dX7_sees_1 rfl ?_
  refine z_callVi C [0, 1] [(hM, .inr (7, [.ref aS, .ref aPa, .int (z_I kn), .ref aSl, .ref aSv, .ref aPd, .int (z_I ln)])), (aS, z_ai cI 712 f)] [.int (z_I b)] [] (c_X7_shows l D cI cZ cO hM aS aPa aSl aSv aPd kn ln f b (by first | assumption | omega) (by omega) h01) gX7_sees_X7_shows rfl zd_X7_shows rfl (by decide) rfl rfl rfl (by decide) rfl rfl rfl (Nat.le_of_ble_eq_true rfl) (by decide) dX7_sees_2 ?_
  rw [hshow]
  refine z_istore_n C [(2, .int (z_I ct.1.2.2.1)), (0, .ref hM), (1, .int (z_I b))] dX7_sees_5 (by decide) rfl ?_
  refine z_iconst C 0 dX7_sees_6 ?_
  refine z_istore_n C [(3, .int (z_I 0)), (2, .int (z_I ct.1.2.2.1)), (0, .ref hM), (1, .int (z_I b))] dX7_sees_7 (by decide) rfl ?_
  have loop8 : ∀ (zn : Nat) (r : Int), 0 ≤ r ∧ r ≤ ct.2.2.1.1 → (∀ i : Int, 0 ≤ i → i < r → ¬ ct.2.2.1.2.1 i = ct.1.2.2.1) → (ct.2.2.1.1 - r) < (zn : Int) → z_V p l e { frames := 2, cells := 0, slots := 0, locals := 44 } s m args below meth c D A 5 0 0 Q [(hM, .inr (7, [.ref aS, .ref aPa, .int (z_I kn), .ref aSl, .ref aSv, .ref aPd, .int (z_I ln)])), (aS, z_ai cI 712 f)] 8 [(3, .int (z_I r)), (2, .int (z_I ct.1.2.2.1)), (0, .ref hM), (1, .int (z_I b))] [] := by
    intro zn
    induction zn with
    | zero => intro r hr hnot hm8; exact absurd hm8 (by omega)
    | succ zn8 ih8 =>
      intro r hr hnot hm8
      refine z_iload_n C 0 dX7_sees_8 rfl ?_
      refine z_aload_n C 2 dX7_sees_9 rfl ?_
      refine z_get C 0 0 zi_X7_sees_X7 rfl rfl (by decide) zl_X7_sees_7 rfl rfl dX7_sees_10 ?_
      refine z_iload_n C 3 dX7_sees_13 rfl ?_
      refine z_bipush C 8 dX7_sees_14 (by decide) ?_
      refine z_iadd C dX7_sees_16 ?_
      refine z_iald C 1 0 rfl rfl (by decide) (by omega) dX7_sees_17 ?_
      refine z_icmp_ge C 45 dX7_sees_18 (by decide) (by omega) (by omega) (fun hc1 => ?_) (fun hc1 => ?_)
      · skip
        have hcase : r = ct.2.2.1.1 := by omega
        have hf0 : ct.2.2.1.2.2.1 ct.1.2.2.1 = 0 := by
          have h1 := (hfo ct.1.2.2.1 hsh.1 (by omega)).1
          by_cases h2 : 0 < ct.2.2.1.2.2.1 ct.1.2.2.1
          · obtain ⟨i, i1, i2, i3⟩ := hsur _ hsh.1 (by omega) h2
            exact absurd i3 (hnot i i1 (by omega))
          · omega
        have hs32 := z_sok_new hsok ct.1.2.2.1 hsh.1 (by omega) hf0
        refine z_iload_n C 3 dX7_sees_45 rfl ?_
        refine z_sipush C 228 dX7_sees_46 (by decide) ?_
        refine z_iadd C dX7_sees_49 ?_
        refine z_iconst C 4 dX7_sees_50 ?_
        refine z_iload_n C 0 dX7_sees_51 rfl ?_
        refine z_imul C dX7_sees_52 ?_
        refine z_iadd C dX7_sees_53 ?_
        refine z_istore C [(4, .int (z_I ((b + 228) + (4 * r)))), (3, .int (z_I r)), (2, .int (z_I ct.1.2.2.1)), (0, .ref hM), (1, .int (z_I b))] dX7_sees_54 (by decide) rfl ?_
        refine z_iload_n C 1 dX7_sees_56 rfl ?_
        refine z_aload_n C 3 dX7_sees_57 rfl ?_
        refine z_get C 0 0 zi_X7_sees_X7 rfl rfl (by decide) zl_X7_sees_7 rfl rfl dX7_sees_58 ?_
        refine z_iload_n C 4 dX7_sees_61 rfl ?_
        refine z_bipush C 8 dX7_sees_62 (by decide) ?_
        refine z_iadd C dX7_sees_64 ?_
        refine z_iald C 1 0 rfl rfl (by decide) (by omega) dX7_sees_65 ?_
        refine z_icmp_ne C 127 dX7_sees_66 (by decide) (by omega) (by omega) (fun hc2 => ?_) (fun hc2 => ?_)
        · first
          | (exfalso; omega)
          | skip
            refine z_aload_n C 3 dX7_sees_127 rfl ?_
            refine z_get C 0 0 zi_X7_sees_X7 rfl rfl (by decide) zl_X7_sees_7 rfl rfl dX7_sees_128 ?_
            refine z_iload C 0 dX7_sees_131 rfl ?_
            refine z_iconst C 1 dX7_sees_133 ?_
            refine z_iadd C dX7_sees_134 ?_
            refine z_dup2 C dX7_sees_135 rfl rfl ?_
            refine z_iald C 1 0 rfl rfl (by decide) (by omega) dX7_sees_136 ?_
            refine z_iconst C 1 dX7_sees_137 ?_
            refine z_iadd C dX7_sees_138 ?_
            refine z_iast C 1 0 ([(hM, .inr (7, [.ref aS, .ref aPa, .int (z_I kn), .ref aSl, .ref aSv, .ref aPd, .int (z_I ln)])), (aS, z_ai cI 712 (z_u f (((b + 228) + (4 * r)) + 1) ((f (((b + 228) + (4 * r)) + 1)) + 1)))]) rfl rfl (by decide) (by omega) rfl dX7_sees_139 ?_
            refine z_aload_n C 3 dX7_sees_140 rfl ?_
            refine z_get C 0 0 zi_X7_sees_X7 rfl rfl (by decide) zl_X7_sees_7 rfl rfl dX7_sees_141 ?_
            refine z_iload C 0 dX7_sees_144 rfl ?_
            refine z_iconst C 2 dX7_sees_146 ?_
            refine z_iadd C dX7_sees_147 ?_
            refine z_dup2 C dX7_sees_148 rfl rfl ?_
            refine z_iald C 1 0 rfl rfl (by decide) (by omega) dX7_sees_149 ?_
            refine z_iload_n C 2 dX7_sees_150 rfl ?_
            refine z_aload_n C 3 dX7_sees_151 rfl ?_
            refine z_get C 0 0 zi_X7_sees_X7 rfl rfl (by decide) zl_X7_sees_7 rfl rfl dX7_sees_152 ?_
            refine z_iload_n C 4 dX7_sees_155 rfl ?_
            refine z_iconst C 3 dX7_sees_156 ?_
            refine z_iadd C dX7_sees_157 ?_
            refine z_iald C 1 0 rfl rfl (by decide) (by omega) dX7_sees_158 ?_
            have e3 : (z_u f (((b + 228) + (4 * r)) + 1) ((f (((b + 228) + (4 * r)) + 1)) + 1)) (b + 3) = ct.2.2.2.2.1 := by (repeat rw [z_u_ne (by omega)]); exact y3
            refine z_icmp_ne C 166 dX7_sees_159 (by decide) (by omega) (by rw [e3]; omega) (fun hc3 => ?_) (fun hc3 => ?_)
            · skip
              have hfbv : (if ct.1.2.2.1 = ct.2.2.2.2.1 then (0 : Int) else 1) = 1 := if_neg (by rw [e3] at hc3; exact hc3)
              refine z_iconst C 1 dX7_sees_166 ?_
              refine z_iadd C dX7_sees_167 ?_
              refine z_iast C 1 0 ([(hM, .inr (7, [.ref aS, .ref aPa, .int (z_I kn), .ref aSl, .ref aSv, .ref aPd, .int (z_I ln)])), (aS, z_ai cI 712 (z_u (z_u f (((b + 228) + (4 * r)) + 1) ((f (((b + 228) + (4 * r)) + 1)) + 1)) (((b + 228) + (4 * r)) + 2) (((z_u f (((b + 228) + (4 * r)) + 1) ((f (((b + 228) + (4 * r)) + 1)) + 1)) (((b + 228) + (4 * r)) + 2)) + 1)))]) rfl rfl (by decide) (by omega) rfl dX7_sees_168 ?_
              exact z_vrete C hQ (z_u (z_u f (((b + 228) + (4 * r)) + 1) ((f (((b + 228) + (4 * r)) + 1)) + 1)) (((b + 228) + (4 * r)) + 2) (((z_u f (((b + 228) + (4 * r)) + 1) ((f (((b + 228) + (4 * r)) + 1)) + 1)) (((b + 228) + (4 * r)) + 2)) + 1)) rfl ⟨by rw [hfbv]; first | exact z_rl_new hrl hsok (by omega) (by first | exact Or.inl rfl | exact Or.inr rfl) hf0 hs32 hrn (by rw [← hcase]; (repeat (first | rw [z_u_same] | rw [z_u_ne (by omega)]))) (by rw [← hcase]; (repeat (first | rw [z_u_same] | rw [z_u_ne (by omega)])); first | done | rfl) (by rw [← hcase]; (repeat (first | rw [z_u_same] | rw [z_u_ne (by omega)])); first | done | omega) (by rw [← hcase]; (repeat (first | rw [z_u_same] | rw [z_u_ne (by omega)])); first | done | exact y2) (by (repeat (first | rw [z_u_same] | rw [z_u_ne (by omega)])); first | done | omega) (fun j j1 j2 => by rw [← hcase] at j2; (repeat rw [z_u_ne (by omega)])) | exact z_rl_old hrl hsok hrn (by omega) (by first | exact Or.inl rfl | exact Or.inr rfl) (r := r) (by omega) hcase2 (by (repeat (first | rw [z_u_same] | rw [z_u_ne (by omega)]))) (by (repeat (first | rw [z_u_same] | rw [z_u_ne (by omega)]))) (fun j j1 j2 => by (repeat rw [z_u_ne (by omega)])), (fun j hj => by (repeat rw [z_u_ne (by omega)]))⟩ dX7_sees_169
            · skip
              have hfbv : (if ct.1.2.2.1 = ct.2.2.2.2.1 then (0 : Int) else 1) = 0 := if_pos (by rw [e3] at hc3; exact hc3)
              refine z_iconst C 0 dX7_sees_162 ?_
              refine z_goto C 167 dX7_sees_163 (by decide) ?_
              refine z_iadd C dX7_sees_167 ?_
              refine z_iast C 1 0 ([(hM, .inr (7, [.ref aS, .ref aPa, .int (z_I kn), .ref aSl, .ref aSv, .ref aPd, .int (z_I ln)])), (aS, z_ai cI 712 (z_u (z_u f (((b + 228) + (4 * r)) + 1) ((f (((b + 228) + (4 * r)) + 1)) + 1)) (((b + 228) + (4 * r)) + 2) (((z_u f (((b + 228) + (4 * r)) + 1) ((f (((b + 228) + (4 * r)) + 1)) + 1)) (((b + 228) + (4 * r)) + 2)) + 0)))]) rfl rfl (by decide) (by omega) rfl dX7_sees_168 ?_
              exact z_vrete C hQ (z_u (z_u f (((b + 228) + (4 * r)) + 1) ((f (((b + 228) + (4 * r)) + 1)) + 1)) (((b + 228) + (4 * r)) + 2) (((z_u f (((b + 228) + (4 * r)) + 1) ((f (((b + 228) + (4 * r)) + 1)) + 1)) (((b + 228) + (4 * r)) + 2)) + 0)) rfl ⟨by rw [hfbv]; first | exact z_rl_new hrl hsok (by omega) (by first | exact Or.inl rfl | exact Or.inr rfl) hf0 hs32 hrn (by rw [← hcase]; (repeat (first | rw [z_u_same] | rw [z_u_ne (by omega)]))) (by rw [← hcase]; (repeat (first | rw [z_u_same] | rw [z_u_ne (by omega)])); first | done | rfl) (by rw [← hcase]; (repeat (first | rw [z_u_same] | rw [z_u_ne (by omega)])); first | done | omega) (by rw [← hcase]; (repeat (first | rw [z_u_same] | rw [z_u_ne (by omega)])); first | done | exact y2) (by (repeat (first | rw [z_u_same] | rw [z_u_ne (by omega)])); first | done | omega) (fun j j1 j2 => by rw [← hcase] at j2; (repeat rw [z_u_ne (by omega)])) | exact z_rl_old hrl hsok hrn (by omega) (by first | exact Or.inl rfl | exact Or.inr rfl) (r := r) (by omega) hcase2 (by (repeat (first | rw [z_u_same] | rw [z_u_ne (by omega)]))) (by (repeat (first | rw [z_u_same] | rw [z_u_ne (by omega)]))) (fun j j1 j2 => by (repeat rw [z_u_ne (by omega)])), (fun j hj => by (repeat rw [z_u_ne (by omega)]))⟩ dX7_sees_169
        · first
          | (exfalso; omega)
          | skip
            refine z_aload_n C 3 dX7_sees_69 rfl ?_
            refine z_get C 0 0 zi_X7_sees_X7 rfl rfl (by decide) zl_X7_sees_7 rfl rfl dX7_sees_70 ?_
            refine z_iload_n C 4 dX7_sees_73 rfl ?_
            refine z_bipush C 8 dX7_sees_74 (by decide) ?_
            refine z_iadd C dX7_sees_76 ?_
            refine z_dup2 C dX7_sees_77 rfl rfl ?_
            refine z_iald C 1 0 rfl rfl (by decide) (by omega) dX7_sees_78 ?_
            refine z_iconst C 1 dX7_sees_79 ?_
            refine z_iadd C dX7_sees_80 ?_
            refine z_iast C 1 0 ([(hM, .inr (7, [.ref aS, .ref aPa, .int (z_I kn), .ref aSl, .ref aSv, .ref aPd, .int (z_I ln)])), (aS, z_ai cI 712 (z_u f (b + 8) ((f (b + 8)) + 1)))]) rfl rfl (by decide) (by omega) rfl dX7_sees_81 ?_
            refine z_aload_n C 3 dX7_sees_82 rfl ?_
            refine z_get C 0 0 zi_X7_sees_X7 rfl rfl (by decide) zl_X7_sees_7 rfl rfl dX7_sees_83 ?_
            refine z_iload C 0 dX7_sees_86 rfl ?_
            refine z_iload_n C 2 dX7_sees_88 rfl ?_
            refine z_iast C 1 0 ([(hM, .inr (7, [.ref aS, .ref aPa, .int (z_I kn), .ref aSl, .ref aSv, .ref aPd, .int (z_I ln)])), (aS, z_ai cI 712 (z_u (z_u f (b + 8) ((f (b + 8)) + 1)) ((b + 228) + (4 * r)) ct.1.2.2.1))]) rfl rfl (by decide) (by omega) rfl dX7_sees_89 ?_
            refine z_aload_n C 3 dX7_sees_90 rfl ?_
            refine z_get C 0 0 zi_X7_sees_X7 rfl rfl (by decide) zl_X7_sees_7 rfl rfl dX7_sees_91 ?_
            refine z_iload C 0 dX7_sees_94 rfl ?_
            refine z_iconst C 1 dX7_sees_96 ?_
            refine z_iadd C dX7_sees_97 ?_
            refine z_iconst C 0 dX7_sees_98 ?_
            refine z_iast C 1 0 ([(hM, .inr (7, [.ref aS, .ref aPa, .int (z_I kn), .ref aSl, .ref aSv, .ref aPd, .int (z_I ln)])), (aS, z_ai cI 712 (z_u (z_u (z_u f (b + 8) ((f (b + 8)) + 1)) ((b + 228) + (4 * r)) ct.1.2.2.1) (((b + 228) + (4 * r)) + 1) 0))]) rfl rfl (by decide) (by omega) rfl dX7_sees_99 ?_
            refine z_aload_n C 3 dX7_sees_100 rfl ?_
            refine z_get C 0 0 zi_X7_sees_X7 rfl rfl (by decide) zl_X7_sees_7 rfl rfl dX7_sees_101 ?_
            refine z_iload C 0 dX7_sees_104 rfl ?_
            refine z_iconst C 2 dX7_sees_106 ?_
            refine z_iadd C dX7_sees_107 ?_
            refine z_iconst C 0 dX7_sees_108 ?_
            refine z_iast C 1 0 ([(hM, .inr (7, [.ref aS, .ref aPa, .int (z_I kn), .ref aSl, .ref aSv, .ref aPd, .int (z_I ln)])), (aS, z_ai cI 712 (z_u (z_u (z_u (z_u f (b + 8) ((f (b + 8)) + 1)) ((b + 228) + (4 * r)) ct.1.2.2.1) (((b + 228) + (4 * r)) + 1) 0) (((b + 228) + (4 * r)) + 2) 0))]) rfl rfl (by decide) (by omega) rfl dX7_sees_109 ?_
            refine z_aload_n C 3 dX7_sees_110 rfl ?_
            refine z_get C 0 0 zi_X7_sees_X7 rfl rfl (by decide) zl_X7_sees_7 rfl rfl dX7_sees_111 ?_
            refine z_iload C 0 dX7_sees_114 rfl ?_
            refine z_iconst C 3 dX7_sees_116 ?_
            refine z_iadd C dX7_sees_117 ?_
            refine z_aload_n C 3 dX7_sees_118 rfl ?_
            refine z_get C 0 0 zi_X7_sees_X7 rfl rfl (by decide) zl_X7_sees_7 rfl rfl dX7_sees_119 ?_
            refine z_iload_n C 4 dX7_sees_122 rfl ?_
            refine z_iconst C 2 dX7_sees_123 ?_
            refine z_iadd C dX7_sees_124 ?_
            refine z_iald C 1 0 rfl rfl (by decide) (by omega) dX7_sees_125 ?_
            refine z_iast C 1 0 ([(hM, .inr (7, [.ref aS, .ref aPa, .int (z_I kn), .ref aSl, .ref aSv, .ref aPd, .int (z_I ln)])), (aS, z_ai cI 712 (z_u (z_u (z_u (z_u (z_u f (b + 8) ((f (b + 8)) + 1)) ((b + 228) + (4 * r)) ct.1.2.2.1) (((b + 228) + (4 * r)) + 1) 0) (((b + 228) + (4 * r)) + 2) 0) (((b + 228) + (4 * r)) + 3) ((z_u (z_u (z_u (z_u f (b + 8) ((f (b + 8)) + 1)) ((b + 228) + (4 * r)) ct.1.2.2.1) (((b + 228) + (4 * r)) + 1) 0) (((b + 228) + (4 * r)) + 2) 0) (b + 2))))]) rfl rfl (by decide) (by omega) rfl dX7_sees_126 ?_
            refine z_aload_n C 3 dX7_sees_127 rfl ?_
            refine z_get C 0 0 zi_X7_sees_X7 rfl rfl (by decide) zl_X7_sees_7 rfl rfl dX7_sees_128 ?_
            refine z_iload C 0 dX7_sees_131 rfl ?_
            refine z_iconst C 1 dX7_sees_133 ?_
            refine z_iadd C dX7_sees_134 ?_
            refine z_dup2 C dX7_sees_135 rfl rfl ?_
            refine z_iald C 1 0 rfl rfl (by decide) (by omega) dX7_sees_136 ?_
            refine z_iconst C 1 dX7_sees_137 ?_
            refine z_iadd C dX7_sees_138 ?_
            refine z_iast C 1 0 ([(hM, .inr (7, [.ref aS, .ref aPa, .int (z_I kn), .ref aSl, .ref aSv, .ref aPd, .int (z_I ln)])), (aS, z_ai cI 712 (z_u (z_u (z_u (z_u (z_u (z_u f (b + 8) ((f (b + 8)) + 1)) ((b + 228) + (4 * r)) ct.1.2.2.1) (((b + 228) + (4 * r)) + 1) 0) (((b + 228) + (4 * r)) + 2) 0) (((b + 228) + (4 * r)) + 3) ((z_u (z_u (z_u (z_u f (b + 8) ((f (b + 8)) + 1)) ((b + 228) + (4 * r)) ct.1.2.2.1) (((b + 228) + (4 * r)) + 1) 0) (((b + 228) + (4 * r)) + 2) 0) (b + 2))) (((b + 228) + (4 * r)) + 1) (((z_u (z_u (z_u (z_u (z_u f (b + 8) ((f (b + 8)) + 1)) ((b + 228) + (4 * r)) ct.1.2.2.1) (((b + 228) + (4 * r)) + 1) 0) (((b + 228) + (4 * r)) + 2) 0) (((b + 228) + (4 * r)) + 3) ((z_u (z_u (z_u (z_u f (b + 8) ((f (b + 8)) + 1)) ((b + 228) + (4 * r)) ct.1.2.2.1) (((b + 228) + (4 * r)) + 1) 0) (((b + 228) + (4 * r)) + 2) 0) (b + 2))) (((b + 228) + (4 * r)) + 1)) + 1)))]) rfl rfl (by decide) (by omega) rfl dX7_sees_139 ?_
            refine z_aload_n C 3 dX7_sees_140 rfl ?_
            refine z_get C 0 0 zi_X7_sees_X7 rfl rfl (by decide) zl_X7_sees_7 rfl rfl dX7_sees_141 ?_
            refine z_iload C 0 dX7_sees_144 rfl ?_
            refine z_iconst C 2 dX7_sees_146 ?_
            refine z_iadd C dX7_sees_147 ?_
            refine z_dup2 C dX7_sees_148 rfl rfl ?_
            refine z_iald C 1 0 rfl rfl (by decide) (by omega) dX7_sees_149 ?_
            refine z_iload_n C 2 dX7_sees_150 rfl ?_
            refine z_aload_n C 3 dX7_sees_151 rfl ?_
            refine z_get C 0 0 zi_X7_sees_X7 rfl rfl (by decide) zl_X7_sees_7 rfl rfl dX7_sees_152 ?_
            refine z_iload_n C 4 dX7_sees_155 rfl ?_
            refine z_iconst C 3 dX7_sees_156 ?_
            refine z_iadd C dX7_sees_157 ?_
            refine z_iald C 1 0 rfl rfl (by decide) (by omega) dX7_sees_158 ?_
            have e3 : (z_u (z_u (z_u (z_u (z_u (z_u f (b + 8) ((f (b + 8)) + 1)) ((b + 228) + (4 * r)) ct.1.2.2.1) (((b + 228) + (4 * r)) + 1) 0) (((b + 228) + (4 * r)) + 2) 0) (((b + 228) + (4 * r)) + 3) ((z_u (z_u (z_u (z_u f (b + 8) ((f (b + 8)) + 1)) ((b + 228) + (4 * r)) ct.1.2.2.1) (((b + 228) + (4 * r)) + 1) 0) (((b + 228) + (4 * r)) + 2) 0) (b + 2))) (((b + 228) + (4 * r)) + 1) (((z_u (z_u (z_u (z_u (z_u f (b + 8) ((f (b + 8)) + 1)) ((b + 228) + (4 * r)) ct.1.2.2.1) (((b + 228) + (4 * r)) + 1) 0) (((b + 228) + (4 * r)) + 2) 0) (((b + 228) + (4 * r)) + 3) ((z_u (z_u (z_u (z_u f (b + 8) ((f (b + 8)) + 1)) ((b + 228) + (4 * r)) ct.1.2.2.1) (((b + 228) + (4 * r)) + 1) 0) (((b + 228) + (4 * r)) + 2) 0) (b + 2))) (((b + 228) + (4 * r)) + 1)) + 1)) (b + 3) = ct.2.2.2.2.1 := by (repeat rw [z_u_ne (by omega)]); exact y3
            refine z_icmp_ne C 166 dX7_sees_159 (by decide) (by omega) (by rw [e3]; omega) (fun hc4 => ?_) (fun hc4 => ?_)
            · skip
              have hfbv : (if ct.1.2.2.1 = ct.2.2.2.2.1 then (0 : Int) else 1) = 1 := if_neg (by rw [e3] at hc4; exact hc4)
              refine z_iconst C 1 dX7_sees_166 ?_
              refine z_iadd C dX7_sees_167 ?_
              refine z_iast C 1 0 ([(hM, .inr (7, [.ref aS, .ref aPa, .int (z_I kn), .ref aSl, .ref aSv, .ref aPd, .int (z_I ln)])), (aS, z_ai cI 712 (z_u (z_u (z_u (z_u (z_u (z_u (z_u f (b + 8) ((f (b + 8)) + 1)) ((b + 228) + (4 * r)) ct.1.2.2.1) (((b + 228) + (4 * r)) + 1) 0) (((b + 228) + (4 * r)) + 2) 0) (((b + 228) + (4 * r)) + 3) ((z_u (z_u (z_u (z_u f (b + 8) ((f (b + 8)) + 1)) ((b + 228) + (4 * r)) ct.1.2.2.1) (((b + 228) + (4 * r)) + 1) 0) (((b + 228) + (4 * r)) + 2) 0) (b + 2))) (((b + 228) + (4 * r)) + 1) (((z_u (z_u (z_u (z_u (z_u f (b + 8) ((f (b + 8)) + 1)) ((b + 228) + (4 * r)) ct.1.2.2.1) (((b + 228) + (4 * r)) + 1) 0) (((b + 228) + (4 * r)) + 2) 0) (((b + 228) + (4 * r)) + 3) ((z_u (z_u (z_u (z_u f (b + 8) ((f (b + 8)) + 1)) ((b + 228) + (4 * r)) ct.1.2.2.1) (((b + 228) + (4 * r)) + 1) 0) (((b + 228) + (4 * r)) + 2) 0) (b + 2))) (((b + 228) + (4 * r)) + 1)) + 1)) (((b + 228) + (4 * r)) + 2) (((z_u (z_u (z_u (z_u (z_u (z_u f (b + 8) ((f (b + 8)) + 1)) ((b + 228) + (4 * r)) ct.1.2.2.1) (((b + 228) + (4 * r)) + 1) 0) (((b + 228) + (4 * r)) + 2) 0) (((b + 228) + (4 * r)) + 3) ((z_u (z_u (z_u (z_u f (b + 8) ((f (b + 8)) + 1)) ((b + 228) + (4 * r)) ct.1.2.2.1) (((b + 228) + (4 * r)) + 1) 0) (((b + 228) + (4 * r)) + 2) 0) (b + 2))) (((b + 228) + (4 * r)) + 1) (((z_u (z_u (z_u (z_u (z_u f (b + 8) ((f (b + 8)) + 1)) ((b + 228) + (4 * r)) ct.1.2.2.1) (((b + 228) + (4 * r)) + 1) 0) (((b + 228) + (4 * r)) + 2) 0) (((b + 228) + (4 * r)) + 3) ((z_u (z_u (z_u (z_u f (b + 8) ((f (b + 8)) + 1)) ((b + 228) + (4 * r)) ct.1.2.2.1) (((b + 228) + (4 * r)) + 1) 0) (((b + 228) + (4 * r)) + 2) 0) (b + 2))) (((b + 228) + (4 * r)) + 1)) + 1)) (((b + 228) + (4 * r)) + 2)) + 1)))]) rfl rfl (by decide) (by omega) rfl dX7_sees_168 ?_
              exact z_vrete C hQ (z_u (z_u (z_u (z_u (z_u (z_u (z_u f (b + 8) ((f (b + 8)) + 1)) ((b + 228) + (4 * r)) ct.1.2.2.1) (((b + 228) + (4 * r)) + 1) 0) (((b + 228) + (4 * r)) + 2) 0) (((b + 228) + (4 * r)) + 3) ((z_u (z_u (z_u (z_u f (b + 8) ((f (b + 8)) + 1)) ((b + 228) + (4 * r)) ct.1.2.2.1) (((b + 228) + (4 * r)) + 1) 0) (((b + 228) + (4 * r)) + 2) 0) (b + 2))) (((b + 228) + (4 * r)) + 1) (((z_u (z_u (z_u (z_u (z_u f (b + 8) ((f (b + 8)) + 1)) ((b + 228) + (4 * r)) ct.1.2.2.1) (((b + 228) + (4 * r)) + 1) 0) (((b + 228) + (4 * r)) + 2) 0) (((b + 228) + (4 * r)) + 3) ((z_u (z_u (z_u (z_u f (b + 8) ((f (b + 8)) + 1)) ((b + 228) + (4 * r)) ct.1.2.2.1) (((b + 228) + (4 * r)) + 1) 0) (((b + 228) + (4 * r)) + 2) 0) (b + 2))) (((b + 228) + (4 * r)) + 1)) + 1)) (((b + 228) + (4 * r)) + 2) (((z_u (z_u (z_u (z_u (z_u (z_u f (b + 8) ((f (b + 8)) + 1)) ((b + 228) + (4 * r)) ct.1.2.2.1) (((b + 228) + (4 * r)) + 1) 0) (((b + 228) + (4 * r)) + 2) 0) (((b + 228) + (4 * r)) + 3) ((z_u (z_u (z_u (z_u f (b + 8) ((f (b + 8)) + 1)) ((b + 228) + (4 * r)) ct.1.2.2.1) (((b + 228) + (4 * r)) + 1) 0) (((b + 228) + (4 * r)) + 2) 0) (b + 2))) (((b + 228) + (4 * r)) + 1) (((z_u (z_u (z_u (z_u (z_u f (b + 8) ((f (b + 8)) + 1)) ((b + 228) + (4 * r)) ct.1.2.2.1) (((b + 228) + (4 * r)) + 1) 0) (((b + 228) + (4 * r)) + 2) 0) (((b + 228) + (4 * r)) + 3) ((z_u (z_u (z_u (z_u f (b + 8) ((f (b + 8)) + 1)) ((b + 228) + (4 * r)) ct.1.2.2.1) (((b + 228) + (4 * r)) + 1) 0) (((b + 228) + (4 * r)) + 2) 0) (b + 2))) (((b + 228) + (4 * r)) + 1)) + 1)) (((b + 228) + (4 * r)) + 2)) + 1)) rfl ⟨by rw [hfbv]; first | exact z_rl_new hrl hsok (by omega) (by first | exact Or.inl rfl | exact Or.inr rfl) hf0 hs32 hrn (by rw [← hcase]; (repeat (first | rw [z_u_same] | rw [z_u_ne (by omega)]))) (by rw [← hcase]; (repeat (first | rw [z_u_same] | rw [z_u_ne (by omega)])); first | done | rfl) (by rw [← hcase]; (repeat (first | rw [z_u_same] | rw [z_u_ne (by omega)])); first | done | omega) (by rw [← hcase]; (repeat (first | rw [z_u_same] | rw [z_u_ne (by omega)])); first | done | exact y2) (by (repeat (first | rw [z_u_same] | rw [z_u_ne (by omega)])); first | done | omega) (fun j j1 j2 => by rw [← hcase] at j2; (repeat rw [z_u_ne (by omega)])) | exact z_rl_old hrl hsok hrn (by omega) (by first | exact Or.inl rfl | exact Or.inr rfl) (r := r) (by omega) hcase2 (by (repeat (first | rw [z_u_same] | rw [z_u_ne (by omega)]))) (by (repeat (first | rw [z_u_same] | rw [z_u_ne (by omega)]))) (fun j j1 j2 => by (repeat rw [z_u_ne (by omega)])), (fun j hj => by (repeat rw [z_u_ne (by omega)]))⟩ dX7_sees_169
            · skip
              have hfbv : (if ct.1.2.2.1 = ct.2.2.2.2.1 then (0 : Int) else 1) = 0 := if_pos (by rw [e3] at hc4; exact hc4)
              refine z_iconst C 0 dX7_sees_162 ?_
              refine z_goto C 167 dX7_sees_163 (by decide) ?_
              refine z_iadd C dX7_sees_167 ?_
              refine z_iast C 1 0 ([(hM, .inr (7, [.ref aS, .ref aPa, .int (z_I kn), .ref aSl, .ref aSv, .ref aPd, .int (z_I ln)])), (aS, z_ai cI 712 (z_u (z_u (z_u (z_u (z_u (z_u (z_u f (b + 8) ((f (b + 8)) + 1)) ((b + 228) + (4 * r)) ct.1.2.2.1) (((b + 228) + (4 * r)) + 1) 0) (((b + 228) + (4 * r)) + 2) 0) (((b + 228) + (4 * r)) + 3) ((z_u (z_u (z_u (z_u f (b + 8) ((f (b + 8)) + 1)) ((b + 228) + (4 * r)) ct.1.2.2.1) (((b + 228) + (4 * r)) + 1) 0) (((b + 228) + (4 * r)) + 2) 0) (b + 2))) (((b + 228) + (4 * r)) + 1) (((z_u (z_u (z_u (z_u (z_u f (b + 8) ((f (b + 8)) + 1)) ((b + 228) + (4 * r)) ct.1.2.2.1) (((b + 228) + (4 * r)) + 1) 0) (((b + 228) + (4 * r)) + 2) 0) (((b + 228) + (4 * r)) + 3) ((z_u (z_u (z_u (z_u f (b + 8) ((f (b + 8)) + 1)) ((b + 228) + (4 * r)) ct.1.2.2.1) (((b + 228) + (4 * r)) + 1) 0) (((b + 228) + (4 * r)) + 2) 0) (b + 2))) (((b + 228) + (4 * r)) + 1)) + 1)) (((b + 228) + (4 * r)) + 2) (((z_u (z_u (z_u (z_u (z_u (z_u f (b + 8) ((f (b + 8)) + 1)) ((b + 228) + (4 * r)) ct.1.2.2.1) (((b + 228) + (4 * r)) + 1) 0) (((b + 228) + (4 * r)) + 2) 0) (((b + 228) + (4 * r)) + 3) ((z_u (z_u (z_u (z_u f (b + 8) ((f (b + 8)) + 1)) ((b + 228) + (4 * r)) ct.1.2.2.1) (((b + 228) + (4 * r)) + 1) 0) (((b + 228) + (4 * r)) + 2) 0) (b + 2))) (((b + 228) + (4 * r)) + 1) (((z_u (z_u (z_u (z_u (z_u f (b + 8) ((f (b + 8)) + 1)) ((b + 228) + (4 * r)) ct.1.2.2.1) (((b + 228) + (4 * r)) + 1) 0) (((b + 228) + (4 * r)) + 2) 0) (((b + 228) + (4 * r)) + 3) ((z_u (z_u (z_u (z_u f (b + 8) ((f (b + 8)) + 1)) ((b + 228) + (4 * r)) ct.1.2.2.1) (((b + 228) + (4 * r)) + 1) 0) (((b + 228) + (4 * r)) + 2) 0) (b + 2))) (((b + 228) + (4 * r)) + 1)) + 1)) (((b + 228) + (4 * r)) + 2)) + 0)))]) rfl rfl (by decide) (by omega) rfl dX7_sees_168 ?_
              exact z_vrete C hQ (z_u (z_u (z_u (z_u (z_u (z_u (z_u f (b + 8) ((f (b + 8)) + 1)) ((b + 228) + (4 * r)) ct.1.2.2.1) (((b + 228) + (4 * r)) + 1) 0) (((b + 228) + (4 * r)) + 2) 0) (((b + 228) + (4 * r)) + 3) ((z_u (z_u (z_u (z_u f (b + 8) ((f (b + 8)) + 1)) ((b + 228) + (4 * r)) ct.1.2.2.1) (((b + 228) + (4 * r)) + 1) 0) (((b + 228) + (4 * r)) + 2) 0) (b + 2))) (((b + 228) + (4 * r)) + 1) (((z_u (z_u (z_u (z_u (z_u f (b + 8) ((f (b + 8)) + 1)) ((b + 228) + (4 * r)) ct.1.2.2.1) (((b + 228) + (4 * r)) + 1) 0) (((b + 228) + (4 * r)) + 2) 0) (((b + 228) + (4 * r)) + 3) ((z_u (z_u (z_u (z_u f (b + 8) ((f (b + 8)) + 1)) ((b + 228) + (4 * r)) ct.1.2.2.1) (((b + 228) + (4 * r)) + 1) 0) (((b + 228) + (4 * r)) + 2) 0) (b + 2))) (((b + 228) + (4 * r)) + 1)) + 1)) (((b + 228) + (4 * r)) + 2) (((z_u (z_u (z_u (z_u (z_u (z_u f (b + 8) ((f (b + 8)) + 1)) ((b + 228) + (4 * r)) ct.1.2.2.1) (((b + 228) + (4 * r)) + 1) 0) (((b + 228) + (4 * r)) + 2) 0) (((b + 228) + (4 * r)) + 3) ((z_u (z_u (z_u (z_u f (b + 8) ((f (b + 8)) + 1)) ((b + 228) + (4 * r)) ct.1.2.2.1) (((b + 228) + (4 * r)) + 1) 0) (((b + 228) + (4 * r)) + 2) 0) (b + 2))) (((b + 228) + (4 * r)) + 1) (((z_u (z_u (z_u (z_u (z_u f (b + 8) ((f (b + 8)) + 1)) ((b + 228) + (4 * r)) ct.1.2.2.1) (((b + 228) + (4 * r)) + 1) 0) (((b + 228) + (4 * r)) + 2) 0) (((b + 228) + (4 * r)) + 3) ((z_u (z_u (z_u (z_u f (b + 8) ((f (b + 8)) + 1)) ((b + 228) + (4 * r)) ct.1.2.2.1) (((b + 228) + (4 * r)) + 1) 0) (((b + 228) + (4 * r)) + 2) 0) (b + 2))) (((b + 228) + (4 * r)) + 1)) + 1)) (((b + 228) + (4 * r)) + 2)) + 0)) rfl ⟨by rw [hfbv]; first | exact z_rl_new hrl hsok (by omega) (by first | exact Or.inl rfl | exact Or.inr rfl) hf0 hs32 hrn (by rw [← hcase]; (repeat (first | rw [z_u_same] | rw [z_u_ne (by omega)]))) (by rw [← hcase]; (repeat (first | rw [z_u_same] | rw [z_u_ne (by omega)])); first | done | rfl) (by rw [← hcase]; (repeat (first | rw [z_u_same] | rw [z_u_ne (by omega)])); first | done | omega) (by rw [← hcase]; (repeat (first | rw [z_u_same] | rw [z_u_ne (by omega)])); first | done | exact y2) (by (repeat (first | rw [z_u_same] | rw [z_u_ne (by omega)])); first | done | omega) (fun j j1 j2 => by rw [← hcase] at j2; (repeat rw [z_u_ne (by omega)])) | exact z_rl_old hrl hsok hrn (by omega) (by first | exact Or.inl rfl | exact Or.inr rfl) (r := r) (by omega) hcase2 (by (repeat (first | rw [z_u_same] | rw [z_u_ne (by omega)]))) (by (repeat (first | rw [z_u_same] | rw [z_u_ne (by omega)]))) (fun j j1 j2 => by (repeat rw [z_u_ne (by omega)])), (fun j hj => by (repeat rw [z_u_ne (by omega)]))⟩ dX7_sees_169
      · skip
        have ha5 := hrl.2.2.2.2 r hr.1 (by omega)
        have hrk5 := (hrk r hr.1 (by omega)).1
        refine z_aload_n C 2 dX7_sees_21 rfl ?_
        refine z_get C 0 0 zi_X7_sees_X7 rfl rfl (by decide) zl_X7_sees_7 rfl rfl dX7_sees_22 ?_
        refine z_iload_n C 3 dX7_sees_25 rfl ?_
        refine z_sipush C 228 dX7_sees_26 (by decide) ?_
        refine z_iadd C dX7_sees_29 ?_
        refine z_iconst C 4 dX7_sees_30 ?_
        refine z_iload_n C 0 dX7_sees_31 rfl ?_
        refine z_imul C dX7_sees_32 ?_
        refine z_iadd C dX7_sees_33 ?_
        refine z_iald C 1 0 rfl rfl (by decide) (by omega) dX7_sees_34 ?_
        refine z_iload_n C 1 dX7_sees_35 rfl ?_
        refine z_icmp_eq C 45 dX7_sees_36 (by decide) (by rw [ha5.1]; omega) (by omega) (fun hc5 => ?_) (fun hc5 => ?_)
        · skip
          have hcase2 : ct.2.2.1.2.1 r = ct.1.2.2.1 := by rw [← ha5.1]; exact hc5
          refine z_iload_n C 3 dX7_sees_45 rfl ?_
          refine z_sipush C 228 dX7_sees_46 (by decide) ?_
          refine z_iadd C dX7_sees_49 ?_
          refine z_iconst C 4 dX7_sees_50 ?_
          refine z_iload_n C 0 dX7_sees_51 rfl ?_
          refine z_imul C dX7_sees_52 ?_
          refine z_iadd C dX7_sees_53 ?_
          refine z_istore C [(4, .int (z_I ((b + 228) + (4 * r)))), (3, .int (z_I r)), (2, .int (z_I ct.1.2.2.1)), (0, .ref hM), (1, .int (z_I b))] dX7_sees_54 (by decide) rfl ?_
          refine z_iload_n C 1 dX7_sees_56 rfl ?_
          refine z_aload_n C 3 dX7_sees_57 rfl ?_
          refine z_get C 0 0 zi_X7_sees_X7 rfl rfl (by decide) zl_X7_sees_7 rfl rfl dX7_sees_58 ?_
          refine z_iload_n C 4 dX7_sees_61 rfl ?_
          refine z_bipush C 8 dX7_sees_62 (by decide) ?_
          refine z_iadd C dX7_sees_64 ?_
          refine z_iald C 1 0 rfl rfl (by decide) (by omega) dX7_sees_65 ?_
          refine z_icmp_ne C 127 dX7_sees_66 (by decide) (by omega) (by omega) (fun hc6 => ?_) (fun hc6 => ?_)
          · first
            | (exfalso; omega)
            | skip
              refine z_aload_n C 3 dX7_sees_127 rfl ?_
              refine z_get C 0 0 zi_X7_sees_X7 rfl rfl (by decide) zl_X7_sees_7 rfl rfl dX7_sees_128 ?_
              refine z_iload C 0 dX7_sees_131 rfl ?_
              refine z_iconst C 1 dX7_sees_133 ?_
              refine z_iadd C dX7_sees_134 ?_
              refine z_dup2 C dX7_sees_135 rfl rfl ?_
              refine z_iald C 1 0 rfl rfl (by decide) (by omega) dX7_sees_136 ?_
              refine z_iconst C 1 dX7_sees_137 ?_
              refine z_iadd C dX7_sees_138 ?_
              refine z_iast C 1 0 ([(hM, .inr (7, [.ref aS, .ref aPa, .int (z_I kn), .ref aSl, .ref aSv, .ref aPd, .int (z_I ln)])), (aS, z_ai cI 712 (z_u f (((b + 228) + (4 * r)) + 1) ((f (((b + 228) + (4 * r)) + 1)) + 1)))]) rfl rfl (by decide) (by omega) rfl dX7_sees_139 ?_
              refine z_aload_n C 3 dX7_sees_140 rfl ?_
              refine z_get C 0 0 zi_X7_sees_X7 rfl rfl (by decide) zl_X7_sees_7 rfl rfl dX7_sees_141 ?_
              refine z_iload C 0 dX7_sees_144 rfl ?_
              refine z_iconst C 2 dX7_sees_146 ?_
              refine z_iadd C dX7_sees_147 ?_
              refine z_dup2 C dX7_sees_148 rfl rfl ?_
              refine z_iald C 1 0 rfl rfl (by decide) (by omega) dX7_sees_149 ?_
              refine z_iload_n C 2 dX7_sees_150 rfl ?_
              refine z_aload_n C 3 dX7_sees_151 rfl ?_
              refine z_get C 0 0 zi_X7_sees_X7 rfl rfl (by decide) zl_X7_sees_7 rfl rfl dX7_sees_152 ?_
              refine z_iload_n C 4 dX7_sees_155 rfl ?_
              refine z_iconst C 3 dX7_sees_156 ?_
              refine z_iadd C dX7_sees_157 ?_
              refine z_iald C 1 0 rfl rfl (by decide) (by omega) dX7_sees_158 ?_
              have e3 : (z_u f (((b + 228) + (4 * r)) + 1) ((f (((b + 228) + (4 * r)) + 1)) + 1)) (b + 3) = ct.2.2.2.2.1 := by (repeat rw [z_u_ne (by omega)]); exact y3
              refine z_icmp_ne C 166 dX7_sees_159 (by decide) (by omega) (by rw [e3]; omega) (fun hc7 => ?_) (fun hc7 => ?_)
              · skip
                have hfbv : (if ct.1.2.2.1 = ct.2.2.2.2.1 then (0 : Int) else 1) = 1 := if_neg (by rw [e3] at hc7; exact hc7)
                refine z_iconst C 1 dX7_sees_166 ?_
                refine z_iadd C dX7_sees_167 ?_
                refine z_iast C 1 0 ([(hM, .inr (7, [.ref aS, .ref aPa, .int (z_I kn), .ref aSl, .ref aSv, .ref aPd, .int (z_I ln)])), (aS, z_ai cI 712 (z_u (z_u f (((b + 228) + (4 * r)) + 1) ((f (((b + 228) + (4 * r)) + 1)) + 1)) (((b + 228) + (4 * r)) + 2) (((z_u f (((b + 228) + (4 * r)) + 1) ((f (((b + 228) + (4 * r)) + 1)) + 1)) (((b + 228) + (4 * r)) + 2)) + 1)))]) rfl rfl (by decide) (by omega) rfl dX7_sees_168 ?_
                exact z_vrete C hQ (z_u (z_u f (((b + 228) + (4 * r)) + 1) ((f (((b + 228) + (4 * r)) + 1)) + 1)) (((b + 228) + (4 * r)) + 2) (((z_u f (((b + 228) + (4 * r)) + 1) ((f (((b + 228) + (4 * r)) + 1)) + 1)) (((b + 228) + (4 * r)) + 2)) + 1)) rfl ⟨by rw [hfbv]; first | exact z_rl_new hrl hsok (by omega) (by first | exact Or.inl rfl | exact Or.inr rfl) hf0 hs32 hrn (by rw [← hcase]; (repeat (first | rw [z_u_same] | rw [z_u_ne (by omega)]))) (by rw [← hcase]; (repeat (first | rw [z_u_same] | rw [z_u_ne (by omega)])); first | done | rfl) (by rw [← hcase]; (repeat (first | rw [z_u_same] | rw [z_u_ne (by omega)])); first | done | omega) (by rw [← hcase]; (repeat (first | rw [z_u_same] | rw [z_u_ne (by omega)])); first | done | exact y2) (by (repeat (first | rw [z_u_same] | rw [z_u_ne (by omega)])); first | done | omega) (fun j j1 j2 => by rw [← hcase] at j2; (repeat rw [z_u_ne (by omega)])) | exact z_rl_old hrl hsok hrn (by omega) (by first | exact Or.inl rfl | exact Or.inr rfl) (r := r) (by omega) hcase2 (by (repeat (first | rw [z_u_same] | rw [z_u_ne (by omega)]))) (by (repeat (first | rw [z_u_same] | rw [z_u_ne (by omega)]))) (fun j j1 j2 => by (repeat rw [z_u_ne (by omega)])), (fun j hj => by (repeat rw [z_u_ne (by omega)]))⟩ dX7_sees_169
              · skip
                have hfbv : (if ct.1.2.2.1 = ct.2.2.2.2.1 then (0 : Int) else 1) = 0 := if_pos (by rw [e3] at hc7; exact hc7)
                refine z_iconst C 0 dX7_sees_162 ?_
                refine z_goto C 167 dX7_sees_163 (by decide) ?_
                refine z_iadd C dX7_sees_167 ?_
                refine z_iast C 1 0 ([(hM, .inr (7, [.ref aS, .ref aPa, .int (z_I kn), .ref aSl, .ref aSv, .ref aPd, .int (z_I ln)])), (aS, z_ai cI 712 (z_u (z_u f (((b + 228) + (4 * r)) + 1) ((f (((b + 228) + (4 * r)) + 1)) + 1)) (((b + 228) + (4 * r)) + 2) (((z_u f (((b + 228) + (4 * r)) + 1) ((f (((b + 228) + (4 * r)) + 1)) + 1)) (((b + 228) + (4 * r)) + 2)) + 0)))]) rfl rfl (by decide) (by omega) rfl dX7_sees_168 ?_
                exact z_vrete C hQ (z_u (z_u f (((b + 228) + (4 * r)) + 1) ((f (((b + 228) + (4 * r)) + 1)) + 1)) (((b + 228) + (4 * r)) + 2) (((z_u f (((b + 228) + (4 * r)) + 1) ((f (((b + 228) + (4 * r)) + 1)) + 1)) (((b + 228) + (4 * r)) + 2)) + 0)) rfl ⟨by rw [hfbv]; first | exact z_rl_new hrl hsok (by omega) (by first | exact Or.inl rfl | exact Or.inr rfl) hf0 hs32 hrn (by rw [← hcase]; (repeat (first | rw [z_u_same] | rw [z_u_ne (by omega)]))) (by rw [← hcase]; (repeat (first | rw [z_u_same] | rw [z_u_ne (by omega)])); first | done | rfl) (by rw [← hcase]; (repeat (first | rw [z_u_same] | rw [z_u_ne (by omega)])); first | done | omega) (by rw [← hcase]; (repeat (first | rw [z_u_same] | rw [z_u_ne (by omega)])); first | done | exact y2) (by (repeat (first | rw [z_u_same] | rw [z_u_ne (by omega)])); first | done | omega) (fun j j1 j2 => by rw [← hcase] at j2; (repeat rw [z_u_ne (by omega)])) | exact z_rl_old hrl hsok hrn (by omega) (by first | exact Or.inl rfl | exact Or.inr rfl) (r := r) (by omega) hcase2 (by (repeat (first | rw [z_u_same] | rw [z_u_ne (by omega)]))) (by (repeat (first | rw [z_u_same] | rw [z_u_ne (by omega)]))) (fun j j1 j2 => by (repeat rw [z_u_ne (by omega)])), (fun j hj => by (repeat rw [z_u_ne (by omega)]))⟩ dX7_sees_169
          · first
            | (exfalso; omega)
            | skip
              refine z_aload_n C 3 dX7_sees_69 rfl ?_
              refine z_get C 0 0 zi_X7_sees_X7 rfl rfl (by decide) zl_X7_sees_7 rfl rfl dX7_sees_70 ?_
              refine z_iload_n C 4 dX7_sees_73 rfl ?_
              refine z_bipush C 8 dX7_sees_74 (by decide) ?_
              refine z_iadd C dX7_sees_76 ?_
              refine z_dup2 C dX7_sees_77 rfl rfl ?_
              refine z_iald C 1 0 rfl rfl (by decide) (by omega) dX7_sees_78 ?_
              refine z_iconst C 1 dX7_sees_79 ?_
              refine z_iadd C dX7_sees_80 ?_
              refine z_iast C 1 0 ([(hM, .inr (7, [.ref aS, .ref aPa, .int (z_I kn), .ref aSl, .ref aSv, .ref aPd, .int (z_I ln)])), (aS, z_ai cI 712 (z_u f (b + 8) ((f (b + 8)) + 1)))]) rfl rfl (by decide) (by omega) rfl dX7_sees_81 ?_
              refine z_aload_n C 3 dX7_sees_82 rfl ?_
              refine z_get C 0 0 zi_X7_sees_X7 rfl rfl (by decide) zl_X7_sees_7 rfl rfl dX7_sees_83 ?_
              refine z_iload C 0 dX7_sees_86 rfl ?_
              refine z_iload_n C 2 dX7_sees_88 rfl ?_
              refine z_iast C 1 0 ([(hM, .inr (7, [.ref aS, .ref aPa, .int (z_I kn), .ref aSl, .ref aSv, .ref aPd, .int (z_I ln)])), (aS, z_ai cI 712 (z_u (z_u f (b + 8) ((f (b + 8)) + 1)) ((b + 228) + (4 * r)) ct.1.2.2.1))]) rfl rfl (by decide) (by omega) rfl dX7_sees_89 ?_
              refine z_aload_n C 3 dX7_sees_90 rfl ?_
              refine z_get C 0 0 zi_X7_sees_X7 rfl rfl (by decide) zl_X7_sees_7 rfl rfl dX7_sees_91 ?_
              refine z_iload C 0 dX7_sees_94 rfl ?_
              refine z_iconst C 1 dX7_sees_96 ?_
              refine z_iadd C dX7_sees_97 ?_
              refine z_iconst C 0 dX7_sees_98 ?_
              refine z_iast C 1 0 ([(hM, .inr (7, [.ref aS, .ref aPa, .int (z_I kn), .ref aSl, .ref aSv, .ref aPd, .int (z_I ln)])), (aS, z_ai cI 712 (z_u (z_u (z_u f (b + 8) ((f (b + 8)) + 1)) ((b + 228) + (4 * r)) ct.1.2.2.1) (((b + 228) + (4 * r)) + 1) 0))]) rfl rfl (by decide) (by omega) rfl dX7_sees_99 ?_
              refine z_aload_n C 3 dX7_sees_100 rfl ?_
              refine z_get C 0 0 zi_X7_sees_X7 rfl rfl (by decide) zl_X7_sees_7 rfl rfl dX7_sees_101 ?_
              refine z_iload C 0 dX7_sees_104 rfl ?_
              refine z_iconst C 2 dX7_sees_106 ?_
              refine z_iadd C dX7_sees_107 ?_
              refine z_iconst C 0 dX7_sees_108 ?_
              refine z_iast C 1 0 ([(hM, .inr (7, [.ref aS, .ref aPa, .int (z_I kn), .ref aSl, .ref aSv, .ref aPd, .int (z_I ln)])), (aS, z_ai cI 712 (z_u (z_u (z_u (z_u f (b + 8) ((f (b + 8)) + 1)) ((b + 228) + (4 * r)) ct.1.2.2.1) (((b + 228) + (4 * r)) + 1) 0) (((b + 228) + (4 * r)) + 2) 0))]) rfl rfl (by decide) (by omega) rfl dX7_sees_109 ?_
              refine z_aload_n C 3 dX7_sees_110 rfl ?_
              refine z_get C 0 0 zi_X7_sees_X7 rfl rfl (by decide) zl_X7_sees_7 rfl rfl dX7_sees_111 ?_
              refine z_iload C 0 dX7_sees_114 rfl ?_
              refine z_iconst C 3 dX7_sees_116 ?_
              refine z_iadd C dX7_sees_117 ?_
              refine z_aload_n C 3 dX7_sees_118 rfl ?_
              refine z_get C 0 0 zi_X7_sees_X7 rfl rfl (by decide) zl_X7_sees_7 rfl rfl dX7_sees_119 ?_
              refine z_iload_n C 4 dX7_sees_122 rfl ?_
              refine z_iconst C 2 dX7_sees_123 ?_
              refine z_iadd C dX7_sees_124 ?_
              refine z_iald C 1 0 rfl rfl (by decide) (by omega) dX7_sees_125 ?_
              refine z_iast C 1 0 ([(hM, .inr (7, [.ref aS, .ref aPa, .int (z_I kn), .ref aSl, .ref aSv, .ref aPd, .int (z_I ln)])), (aS, z_ai cI 712 (z_u (z_u (z_u (z_u (z_u f (b + 8) ((f (b + 8)) + 1)) ((b + 228) + (4 * r)) ct.1.2.2.1) (((b + 228) + (4 * r)) + 1) 0) (((b + 228) + (4 * r)) + 2) 0) (((b + 228) + (4 * r)) + 3) ((z_u (z_u (z_u (z_u f (b + 8) ((f (b + 8)) + 1)) ((b + 228) + (4 * r)) ct.1.2.2.1) (((b + 228) + (4 * r)) + 1) 0) (((b + 228) + (4 * r)) + 2) 0) (b + 2))))]) rfl rfl (by decide) (by omega) rfl dX7_sees_126 ?_
              refine z_aload_n C 3 dX7_sees_127 rfl ?_
              refine z_get C 0 0 zi_X7_sees_X7 rfl rfl (by decide) zl_X7_sees_7 rfl rfl dX7_sees_128 ?_
              refine z_iload C 0 dX7_sees_131 rfl ?_
              refine z_iconst C 1 dX7_sees_133 ?_
              refine z_iadd C dX7_sees_134 ?_
              refine z_dup2 C dX7_sees_135 rfl rfl ?_
              refine z_iald C 1 0 rfl rfl (by decide) (by omega) dX7_sees_136 ?_
              refine z_iconst C 1 dX7_sees_137 ?_
              refine z_iadd C dX7_sees_138 ?_
              refine z_iast C 1 0 ([(hM, .inr (7, [.ref aS, .ref aPa, .int (z_I kn), .ref aSl, .ref aSv, .ref aPd, .int (z_I ln)])), (aS, z_ai cI 712 (z_u (z_u (z_u (z_u (z_u (z_u f (b + 8) ((f (b + 8)) + 1)) ((b + 228) + (4 * r)) ct.1.2.2.1) (((b + 228) + (4 * r)) + 1) 0) (((b + 228) + (4 * r)) + 2) 0) (((b + 228) + (4 * r)) + 3) ((z_u (z_u (z_u (z_u f (b + 8) ((f (b + 8)) + 1)) ((b + 228) + (4 * r)) ct.1.2.2.1) (((b + 228) + (4 * r)) + 1) 0) (((b + 228) + (4 * r)) + 2) 0) (b + 2))) (((b + 228) + (4 * r)) + 1) (((z_u (z_u (z_u (z_u (z_u f (b + 8) ((f (b + 8)) + 1)) ((b + 228) + (4 * r)) ct.1.2.2.1) (((b + 228) + (4 * r)) + 1) 0) (((b + 228) + (4 * r)) + 2) 0) (((b + 228) + (4 * r)) + 3) ((z_u (z_u (z_u (z_u f (b + 8) ((f (b + 8)) + 1)) ((b + 228) + (4 * r)) ct.1.2.2.1) (((b + 228) + (4 * r)) + 1) 0) (((b + 228) + (4 * r)) + 2) 0) (b + 2))) (((b + 228) + (4 * r)) + 1)) + 1)))]) rfl rfl (by decide) (by omega) rfl dX7_sees_139 ?_
              refine z_aload_n C 3 dX7_sees_140 rfl ?_
              refine z_get C 0 0 zi_X7_sees_X7 rfl rfl (by decide) zl_X7_sees_7 rfl rfl dX7_sees_141 ?_
              refine z_iload C 0 dX7_sees_144 rfl ?_
              refine z_iconst C 2 dX7_sees_146 ?_
              refine z_iadd C dX7_sees_147 ?_
              refine z_dup2 C dX7_sees_148 rfl rfl ?_
              refine z_iald C 1 0 rfl rfl (by decide) (by omega) dX7_sees_149 ?_
              refine z_iload_n C 2 dX7_sees_150 rfl ?_
              refine z_aload_n C 3 dX7_sees_151 rfl ?_
              refine z_get C 0 0 zi_X7_sees_X7 rfl rfl (by decide) zl_X7_sees_7 rfl rfl dX7_sees_152 ?_
              refine z_iload_n C 4 dX7_sees_155 rfl ?_
              refine z_iconst C 3 dX7_sees_156 ?_
              refine z_iadd C dX7_sees_157 ?_
              refine z_iald C 1 0 rfl rfl (by decide) (by omega) dX7_sees_158 ?_
              have e3 : (z_u (z_u (z_u (z_u (z_u (z_u f (b + 8) ((f (b + 8)) + 1)) ((b + 228) + (4 * r)) ct.1.2.2.1) (((b + 228) + (4 * r)) + 1) 0) (((b + 228) + (4 * r)) + 2) 0) (((b + 228) + (4 * r)) + 3) ((z_u (z_u (z_u (z_u f (b + 8) ((f (b + 8)) + 1)) ((b + 228) + (4 * r)) ct.1.2.2.1) (((b + 228) + (4 * r)) + 1) 0) (((b + 228) + (4 * r)) + 2) 0) (b + 2))) (((b + 228) + (4 * r)) + 1) (((z_u (z_u (z_u (z_u (z_u f (b + 8) ((f (b + 8)) + 1)) ((b + 228) + (4 * r)) ct.1.2.2.1) (((b + 228) + (4 * r)) + 1) 0) (((b + 228) + (4 * r)) + 2) 0) (((b + 228) + (4 * r)) + 3) ((z_u (z_u (z_u (z_u f (b + 8) ((f (b + 8)) + 1)) ((b + 228) + (4 * r)) ct.1.2.2.1) (((b + 228) + (4 * r)) + 1) 0) (((b + 228) + (4 * r)) + 2) 0) (b + 2))) (((b + 228) + (4 * r)) + 1)) + 1)) (b + 3) = ct.2.2.2.2.1 := by (repeat rw [z_u_ne (by omega)]); exact y3
              refine z_icmp_ne C 166 dX7_sees_159 (by decide) (by omega) (by rw [e3]; omega) (fun hc8 => ?_) (fun hc8 => ?_)
              · skip
                have hfbv : (if ct.1.2.2.1 = ct.2.2.2.2.1 then (0 : Int) else 1) = 1 := if_neg (by rw [e3] at hc8; exact hc8)
                refine z_iconst C 1 dX7_sees_166 ?_
                refine z_iadd C dX7_sees_167 ?_
                refine z_iast C 1 0 ([(hM, .inr (7, [.ref aS, .ref aPa, .int (z_I kn), .ref aSl, .ref aSv, .ref aPd, .int (z_I ln)])), (aS, z_ai cI 712 (z_u (z_u (z_u (z_u (z_u (z_u (z_u f (b + 8) ((f (b + 8)) + 1)) ((b + 228) + (4 * r)) ct.1.2.2.1) (((b + 228) + (4 * r)) + 1) 0) (((b + 228) + (4 * r)) + 2) 0) (((b + 228) + (4 * r)) + 3) ((z_u (z_u (z_u (z_u f (b + 8) ((f (b + 8)) + 1)) ((b + 228) + (4 * r)) ct.1.2.2.1) (((b + 228) + (4 * r)) + 1) 0) (((b + 228) + (4 * r)) + 2) 0) (b + 2))) (((b + 228) + (4 * r)) + 1) (((z_u (z_u (z_u (z_u (z_u f (b + 8) ((f (b + 8)) + 1)) ((b + 228) + (4 * r)) ct.1.2.2.1) (((b + 228) + (4 * r)) + 1) 0) (((b + 228) + (4 * r)) + 2) 0) (((b + 228) + (4 * r)) + 3) ((z_u (z_u (z_u (z_u f (b + 8) ((f (b + 8)) + 1)) ((b + 228) + (4 * r)) ct.1.2.2.1) (((b + 228) + (4 * r)) + 1) 0) (((b + 228) + (4 * r)) + 2) 0) (b + 2))) (((b + 228) + (4 * r)) + 1)) + 1)) (((b + 228) + (4 * r)) + 2) (((z_u (z_u (z_u (z_u (z_u (z_u f (b + 8) ((f (b + 8)) + 1)) ((b + 228) + (4 * r)) ct.1.2.2.1) (((b + 228) + (4 * r)) + 1) 0) (((b + 228) + (4 * r)) + 2) 0) (((b + 228) + (4 * r)) + 3) ((z_u (z_u (z_u (z_u f (b + 8) ((f (b + 8)) + 1)) ((b + 228) + (4 * r)) ct.1.2.2.1) (((b + 228) + (4 * r)) + 1) 0) (((b + 228) + (4 * r)) + 2) 0) (b + 2))) (((b + 228) + (4 * r)) + 1) (((z_u (z_u (z_u (z_u (z_u f (b + 8) ((f (b + 8)) + 1)) ((b + 228) + (4 * r)) ct.1.2.2.1) (((b + 228) + (4 * r)) + 1) 0) (((b + 228) + (4 * r)) + 2) 0) (((b + 228) + (4 * r)) + 3) ((z_u (z_u (z_u (z_u f (b + 8) ((f (b + 8)) + 1)) ((b + 228) + (4 * r)) ct.1.2.2.1) (((b + 228) + (4 * r)) + 1) 0) (((b + 228) + (4 * r)) + 2) 0) (b + 2))) (((b + 228) + (4 * r)) + 1)) + 1)) (((b + 228) + (4 * r)) + 2)) + 1)))]) rfl rfl (by decide) (by omega) rfl dX7_sees_168 ?_
                exact z_vrete C hQ (z_u (z_u (z_u (z_u (z_u (z_u (z_u f (b + 8) ((f (b + 8)) + 1)) ((b + 228) + (4 * r)) ct.1.2.2.1) (((b + 228) + (4 * r)) + 1) 0) (((b + 228) + (4 * r)) + 2) 0) (((b + 228) + (4 * r)) + 3) ((z_u (z_u (z_u (z_u f (b + 8) ((f (b + 8)) + 1)) ((b + 228) + (4 * r)) ct.1.2.2.1) (((b + 228) + (4 * r)) + 1) 0) (((b + 228) + (4 * r)) + 2) 0) (b + 2))) (((b + 228) + (4 * r)) + 1) (((z_u (z_u (z_u (z_u (z_u f (b + 8) ((f (b + 8)) + 1)) ((b + 228) + (4 * r)) ct.1.2.2.1) (((b + 228) + (4 * r)) + 1) 0) (((b + 228) + (4 * r)) + 2) 0) (((b + 228) + (4 * r)) + 3) ((z_u (z_u (z_u (z_u f (b + 8) ((f (b + 8)) + 1)) ((b + 228) + (4 * r)) ct.1.2.2.1) (((b + 228) + (4 * r)) + 1) 0) (((b + 228) + (4 * r)) + 2) 0) (b + 2))) (((b + 228) + (4 * r)) + 1)) + 1)) (((b + 228) + (4 * r)) + 2) (((z_u (z_u (z_u (z_u (z_u (z_u f (b + 8) ((f (b + 8)) + 1)) ((b + 228) + (4 * r)) ct.1.2.2.1) (((b + 228) + (4 * r)) + 1) 0) (((b + 228) + (4 * r)) + 2) 0) (((b + 228) + (4 * r)) + 3) ((z_u (z_u (z_u (z_u f (b + 8) ((f (b + 8)) + 1)) ((b + 228) + (4 * r)) ct.1.2.2.1) (((b + 228) + (4 * r)) + 1) 0) (((b + 228) + (4 * r)) + 2) 0) (b + 2))) (((b + 228) + (4 * r)) + 1) (((z_u (z_u (z_u (z_u (z_u f (b + 8) ((f (b + 8)) + 1)) ((b + 228) + (4 * r)) ct.1.2.2.1) (((b + 228) + (4 * r)) + 1) 0) (((b + 228) + (4 * r)) + 2) 0) (((b + 228) + (4 * r)) + 3) ((z_u (z_u (z_u (z_u f (b + 8) ((f (b + 8)) + 1)) ((b + 228) + (4 * r)) ct.1.2.2.1) (((b + 228) + (4 * r)) + 1) 0) (((b + 228) + (4 * r)) + 2) 0) (b + 2))) (((b + 228) + (4 * r)) + 1)) + 1)) (((b + 228) + (4 * r)) + 2)) + 1)) rfl ⟨by rw [hfbv]; first | exact z_rl_new hrl hsok (by omega) (by first | exact Or.inl rfl | exact Or.inr rfl) hf0 hs32 hrn (by rw [← hcase]; (repeat (first | rw [z_u_same] | rw [z_u_ne (by omega)]))) (by rw [← hcase]; (repeat (first | rw [z_u_same] | rw [z_u_ne (by omega)])); first | done | rfl) (by rw [← hcase]; (repeat (first | rw [z_u_same] | rw [z_u_ne (by omega)])); first | done | omega) (by rw [← hcase]; (repeat (first | rw [z_u_same] | rw [z_u_ne (by omega)])); first | done | exact y2) (by (repeat (first | rw [z_u_same] | rw [z_u_ne (by omega)])); first | done | omega) (fun j j1 j2 => by rw [← hcase] at j2; (repeat rw [z_u_ne (by omega)])) | exact z_rl_old hrl hsok hrn (by omega) (by first | exact Or.inl rfl | exact Or.inr rfl) (r := r) (by omega) hcase2 (by (repeat (first | rw [z_u_same] | rw [z_u_ne (by omega)]))) (by (repeat (first | rw [z_u_same] | rw [z_u_ne (by omega)]))) (fun j j1 j2 => by (repeat rw [z_u_ne (by omega)])), (fun j hj => by (repeat rw [z_u_ne (by omega)]))⟩ dX7_sees_169
              · skip
                have hfbv : (if ct.1.2.2.1 = ct.2.2.2.2.1 then (0 : Int) else 1) = 0 := if_pos (by rw [e3] at hc8; exact hc8)
                refine z_iconst C 0 dX7_sees_162 ?_
                refine z_goto C 167 dX7_sees_163 (by decide) ?_
                refine z_iadd C dX7_sees_167 ?_
                refine z_iast C 1 0 ([(hM, .inr (7, [.ref aS, .ref aPa, .int (z_I kn), .ref aSl, .ref aSv, .ref aPd, .int (z_I ln)])), (aS, z_ai cI 712 (z_u (z_u (z_u (z_u (z_u (z_u (z_u f (b + 8) ((f (b + 8)) + 1)) ((b + 228) + (4 * r)) ct.1.2.2.1) (((b + 228) + (4 * r)) + 1) 0) (((b + 228) + (4 * r)) + 2) 0) (((b + 228) + (4 * r)) + 3) ((z_u (z_u (z_u (z_u f (b + 8) ((f (b + 8)) + 1)) ((b + 228) + (4 * r)) ct.1.2.2.1) (((b + 228) + (4 * r)) + 1) 0) (((b + 228) + (4 * r)) + 2) 0) (b + 2))) (((b + 228) + (4 * r)) + 1) (((z_u (z_u (z_u (z_u (z_u f (b + 8) ((f (b + 8)) + 1)) ((b + 228) + (4 * r)) ct.1.2.2.1) (((b + 228) + (4 * r)) + 1) 0) (((b + 228) + (4 * r)) + 2) 0) (((b + 228) + (4 * r)) + 3) ((z_u (z_u (z_u (z_u f (b + 8) ((f (b + 8)) + 1)) ((b + 228) + (4 * r)) ct.1.2.2.1) (((b + 228) + (4 * r)) + 1) 0) (((b + 228) + (4 * r)) + 2) 0) (b + 2))) (((b + 228) + (4 * r)) + 1)) + 1)) (((b + 228) + (4 * r)) + 2) (((z_u (z_u (z_u (z_u (z_u (z_u f (b + 8) ((f (b + 8)) + 1)) ((b + 228) + (4 * r)) ct.1.2.2.1) (((b + 228) + (4 * r)) + 1) 0) (((b + 228) + (4 * r)) + 2) 0) (((b + 228) + (4 * r)) + 3) ((z_u (z_u (z_u (z_u f (b + 8) ((f (b + 8)) + 1)) ((b + 228) + (4 * r)) ct.1.2.2.1) (((b + 228) + (4 * r)) + 1) 0) (((b + 228) + (4 * r)) + 2) 0) (b + 2))) (((b + 228) + (4 * r)) + 1) (((z_u (z_u (z_u (z_u (z_u f (b + 8) ((f (b + 8)) + 1)) ((b + 228) + (4 * r)) ct.1.2.2.1) (((b + 228) + (4 * r)) + 1) 0) (((b + 228) + (4 * r)) + 2) 0) (((b + 228) + (4 * r)) + 3) ((z_u (z_u (z_u (z_u f (b + 8) ((f (b + 8)) + 1)) ((b + 228) + (4 * r)) ct.1.2.2.1) (((b + 228) + (4 * r)) + 1) 0) (((b + 228) + (4 * r)) + 2) 0) (b + 2))) (((b + 228) + (4 * r)) + 1)) + 1)) (((b + 228) + (4 * r)) + 2)) + 0)))]) rfl rfl (by decide) (by omega) rfl dX7_sees_168 ?_
                exact z_vrete C hQ (z_u (z_u (z_u (z_u (z_u (z_u (z_u f (b + 8) ((f (b + 8)) + 1)) ((b + 228) + (4 * r)) ct.1.2.2.1) (((b + 228) + (4 * r)) + 1) 0) (((b + 228) + (4 * r)) + 2) 0) (((b + 228) + (4 * r)) + 3) ((z_u (z_u (z_u (z_u f (b + 8) ((f (b + 8)) + 1)) ((b + 228) + (4 * r)) ct.1.2.2.1) (((b + 228) + (4 * r)) + 1) 0) (((b + 228) + (4 * r)) + 2) 0) (b + 2))) (((b + 228) + (4 * r)) + 1) (((z_u (z_u (z_u (z_u (z_u f (b + 8) ((f (b + 8)) + 1)) ((b + 228) + (4 * r)) ct.1.2.2.1) (((b + 228) + (4 * r)) + 1) 0) (((b + 228) + (4 * r)) + 2) 0) (((b + 228) + (4 * r)) + 3) ((z_u (z_u (z_u (z_u f (b + 8) ((f (b + 8)) + 1)) ((b + 228) + (4 * r)) ct.1.2.2.1) (((b + 228) + (4 * r)) + 1) 0) (((b + 228) + (4 * r)) + 2) 0) (b + 2))) (((b + 228) + (4 * r)) + 1)) + 1)) (((b + 228) + (4 * r)) + 2) (((z_u (z_u (z_u (z_u (z_u (z_u f (b + 8) ((f (b + 8)) + 1)) ((b + 228) + (4 * r)) ct.1.2.2.1) (((b + 228) + (4 * r)) + 1) 0) (((b + 228) + (4 * r)) + 2) 0) (((b + 228) + (4 * r)) + 3) ((z_u (z_u (z_u (z_u f (b + 8) ((f (b + 8)) + 1)) ((b + 228) + (4 * r)) ct.1.2.2.1) (((b + 228) + (4 * r)) + 1) 0) (((b + 228) + (4 * r)) + 2) 0) (b + 2))) (((b + 228) + (4 * r)) + 1) (((z_u (z_u (z_u (z_u (z_u f (b + 8) ((f (b + 8)) + 1)) ((b + 228) + (4 * r)) ct.1.2.2.1) (((b + 228) + (4 * r)) + 1) 0) (((b + 228) + (4 * r)) + 2) 0) (((b + 228) + (4 * r)) + 3) ((z_u (z_u (z_u (z_u f (b + 8) ((f (b + 8)) + 1)) ((b + 228) + (4 * r)) ct.1.2.2.1) (((b + 228) + (4 * r)) + 1) 0) (((b + 228) + (4 * r)) + 2) 0) (b + 2))) (((b + 228) + (4 * r)) + 1)) + 1)) (((b + 228) + (4 * r)) + 2)) + 0)) rfl ⟨by rw [hfbv]; first | exact z_rl_new hrl hsok (by omega) (by first | exact Or.inl rfl | exact Or.inr rfl) hf0 hs32 hrn (by rw [← hcase]; (repeat (first | rw [z_u_same] | rw [z_u_ne (by omega)]))) (by rw [← hcase]; (repeat (first | rw [z_u_same] | rw [z_u_ne (by omega)])); first | done | rfl) (by rw [← hcase]; (repeat (first | rw [z_u_same] | rw [z_u_ne (by omega)])); first | done | omega) (by rw [← hcase]; (repeat (first | rw [z_u_same] | rw [z_u_ne (by omega)])); first | done | exact y2) (by (repeat (first | rw [z_u_same] | rw [z_u_ne (by omega)])); first | done | omega) (fun j j1 j2 => by rw [← hcase] at j2; (repeat rw [z_u_ne (by omega)])) | exact z_rl_old hrl hsok hrn (by omega) (by first | exact Or.inl rfl | exact Or.inr rfl) (r := r) (by omega) hcase2 (by (repeat (first | rw [z_u_same] | rw [z_u_ne (by omega)]))) (by (repeat (first | rw [z_u_same] | rw [z_u_ne (by omega)]))) (fun j j1 j2 => by (repeat rw [z_u_ne (by omega)])), (fun j hj => by (repeat rw [z_u_ne (by omega)]))⟩ dX7_sees_169
        · skip
          have hne := hc5
          refine z_iinc C 0 [(3, .int (z_I (r + 1))), (2, .int (z_I ct.1.2.2.1)), (0, .ref hM), (1, .int (z_I b))] dX7_sees_39 rfl (by decide) rfl ?_
          refine z_goto C 8 dX7_sees_42 (by decide) ?_
          exact ih8 (r + 1) (by first | assumption | omega) (fun i h1 h2 => by by_cases h3 : i = r; (· subst h3; rw [← ha5.1]; exact hne); (· exact hnot i h1 (by omega))) (by omega)
  exact loop8 (ct.2.2.1.1.toNat + 1) 0 (by first | assumption | omega) (fun i h1 h2 => absurd h1 (by omega)) (by omega)
