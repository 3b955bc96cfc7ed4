theorem zd_L_isCounter : yL_isCounter.cls ≠ "java/lang/invoke/MethodHandle" ∧ yL_isCounter.cls ≠ "java/lang/invoke/VarHandle" ∧ (parseMethodDescriptor yL_isCounter.desc).map (fun d => d.parameters.length) = some 1 := by decide +kernel
set_option maxHeartbeats 4000000 in
set_option maxRecDepth 100000 in
theorem c_L_isCounter (l : Launch) (D : va_G) (cI cZ cO : ClassId) (g : Nat → Nat) (ct : z_Ct) (J : p_J) (hx : x_ok ct) (ht : ct.1.1 ≤ 9999) (hJ : p_ok J) : z_Ei (p_J) l yL_isCounter wsL_isCounter 4 90 D (z_T cI cZ cO) [.ref (g 0)] ((pw cI cZ cO g ct J ++ []).flatten) (fun u => (pw cI cZ cO g ct u ++ []).flatten) (fun i u => i = 1 ∧ p_ok u) := by
  refine z_Ei_of (cc := cL_isCounter) (nL := 7) (ret := (some .boolean)) (by decide +kernel) rfl (Nat.le_of_ble_eq_true rfl) ?_
  intro p e s m args below meth c A Q C hQ
  change z_V p l e { frames := 4, cells := 0, slots := 0, locals := 90 } s m args below meth c D A 7 0 0 Q ((pw cI cZ cO g ct J ++ []).flatten) 0 [(0, .ref (g 0))] []
  obtain ⟨t0, st0, p20, sh0, ow0, ck0, rn0, lw0, ho0, lc0, ld0, rl0, sn0, lct, owz⟩ := x_bas hx
  refine z_aload_n C 0 dL_isCounter_0 rfl ?_
  refine z_bipush C 10 dL_isCounter_1 (by decide) ?_
  refine pq_count (F := ct.1.2.1) C gL_isCounter_X6_count dL_isCounter_3 ⟨Nat.le_of_ble_eq_true rfl, Nat.le_of_ble_eq_true rfl⟩ ⟨Nat.le_of_ble_eq_true rfl, Nat.le_of_ble_eq_true rfl⟩ hx.1 ht 10 ⟨by omega, by omega⟩ (pa_count10 (kp := J.1)) (Nat.le_of_ble_eq_true rfl) ?_
  refine z_istore_n C [(1, .int (z_I ct.1.2.1)), (0, .ref (g 0))] dL_isCounter_6 (by decide) rfl ?_
  refine z_iconst C 0 dL_isCounter_7 ?_
  refine z_istore_n C [(2, .int (z_I 0)), (1, .int (z_I ct.1.2.1)), (0, .ref (g 0))] dL_isCounter_8 (by decide) rfl ?_
  refine z_iconst C 0 dL_isCounter_9 ?_
  refine z_istore_n C [(3, .int (z_I 0)), (2, .int (z_I 0)), (1, .int (z_I ct.1.2.1)), (0, .ref (g 0))] dL_isCounter_10 (by decide) rfl ?_
  refine z_iconst C 0 dL_isCounter_11 ?_
  refine z_istore C [(4, .int (z_I 0)), (3, .int (z_I 0)), (2, .int (z_I 0)), (1, .int (z_I ct.1.2.1)), (0, .ref (g 0))] dL_isCounter_12 (by decide) rfl ?_
  have loop14 : ∀ (zn : Nat) (k_9 : Int) (a_9 : Int) (b_9 : Int), 0 ≤ k_9 → k_9 ≤ ct.1.2.1 → a_9 = x_pS ct k_9 → b_9 = x_pW ct k_9 → ct.1.2.1 - k_9 < (zn : Int) → z_V p l e { frames := 4, cells := 0, slots := 0, locals := 90 } s m args below meth c D A 7 0 0 Q ((pw cI cZ cO g ct J ++ []).flatten) 14 [(0, .ref (g 0)), (1, .int (z_I ct.1.2.1)), (2, .int (z_I a_9)), (3, .int (z_I b_9)), (4, .int (z_I k_9))] [] := by
    intro zn
    induction zn with
    | zero => intro k_9 a_9 b_9 hk0 hk1 ha hb hm; exact absurd hm (by omega)
    | succ zn14 ih14 =>
      intro k_9 a_9 b_9 hk0 hk1 ha hb hm14
      have ra := x_pS_r (ct := ct) (k := k_9) (by omega)
      have rb := x_pW_r hx (k := k_9) (by omega)
      rw [← ha] at ra
      rw [← hb] at rb
      refine z_iload C 4 dL_isCounter_14 rfl ?_
      refine z_iload_n C 1 dL_isCounter_16 rfl ?_
      refine z_icmp_ge C 174 dL_isCounter_17 (by decide) ⟨by omega, by omega⟩ ⟨by omega, by omega⟩ (fun hc1 => ?_) (fun hc1 => ?_)
      · skip
        obtain rfl : k_9 = ct.1.2.1 := by omega
        rw [x_pS_e hx] at ha
        rw [x_pW_e hx] at hb
        obtain ⟨ckn, ckb⟩ := x_cnt hx
        obtain ⟨dl0, bi0, dn0, o20, -, -, -⟩ := x_stg hx (k := 0) ⟨by omega, by omega⟩
        obtain ⟨si0, si1, si2⟩ := x_si_r hx.1
        refine z_aload_n C 0 dL_isCounter_174 rfl ?_
        refine z_iconst C 0 dL_isCounter_175 ?_
        refine z_iconst C 4 dL_isCounter_176 ?_
        refine pq_of (F := ct.1.2.2.2.2.2.1 0) C gL_isCounter_X6_of dL_isCounter_177 ⟨Nat.le_of_ble_eq_true rfl, Nat.le_of_ble_eq_true rfl⟩ ⟨Nat.le_of_ble_eq_true rfl, Nat.le_of_ble_eq_true rfl⟩ hx.1 ht 0 4 ⟨by omega, by omega⟩ ⟨by omega, by omega⟩ (pa_of4 (by omega)) (Nat.le_of_ble_eq_true rfl) ?_
        refine z_aload_n C 0 dL_isCounter_180 rfl ?_
        refine z_iconst C 0 dL_isCounter_181 ?_
        refine z_iconst C 2 dL_isCounter_182 ?_
        refine pq_of (F := x_o2 ct 0) C gL_isCounter_X6_of dL_isCounter_183 ⟨Nat.le_of_ble_eq_true rfl, Nat.le_of_ble_eq_true rfl⟩ ⟨Nat.le_of_ble_eq_true rfl, Nat.le_of_ble_eq_true rfl⟩ hx.1 ht 0 2 ⟨by omega, by omega⟩ ⟨by omega, by omega⟩ (pa_of2 (by omega)) (Nat.le_of_ble_eq_true rfl) ?_
        refine z_iadd C dL_isCounter_186 ?_
        refine z_istore C [(4, .int (z_I ((ct.1.2.2.2.2.2.1 0) + (x_o2 ct 0)))), (0, .ref (g 0)), (1, .int (z_I ct.1.2.1)), (2, .int (z_I a_9)), (3, .int (z_I b_9))] dL_isCounter_187 (by decide) rfl ?_
        refine z_iload_n C 4 dL_isCounter_189 rfl ?_
        refine z_if_ne C 197 dL_isCounter_190 (by decide) ⟨by omega, by omega⟩ (fun hc2 => ?_) (fun hc2 => ?_)
        · skip
          refine z_iconst C 0 dL_isCounter_197 ?_
          refine z_istore C [(5, .int (z_I 0)), (4, .int (z_I ((ct.1.2.2.2.2.2.1 0) + (x_o2 ct 0)))), (0, .ref (g 0)), (1, .int (z_I ct.1.2.1)), (2, .int (z_I a_9)), (3, .int (z_I b_9))] dL_isCounter_198 (by decide) rfl ?_
          refine z_aload_n C 2 dL_isCounter_200 rfl ?_
          refine z_iconst C 1 dL_isCounter_201 ?_
          refine pq_count (F := ct.1.2.2.1) C gL_isCounter_X6_count dL_isCounter_202 ⟨Nat.le_of_ble_eq_true rfl, Nat.le_of_ble_eq_true rfl⟩ ⟨Nat.le_of_ble_eq_true rfl, Nat.le_of_ble_eq_true rfl⟩ hx.1 ht 1 ⟨by omega, by omega⟩ (pa_count1 (kp := J.1)) (Nat.le_of_ble_eq_true rfl) ?_
          refine z_iload_n C 4 dL_isCounter_205 rfl ?_
          refine z_icmp_ne C 286 dL_isCounter_206 (by decide) ⟨by omega, by omega⟩ ⟨by omega, by omega⟩ (fun hc3 => absurd hc3 (by omega)) (fun hc3 => ?_)
          refine z_aload_n C 2 dL_isCounter_209 rfl ?_
          refine z_iconst C 3 dL_isCounter_210 ?_
          refine pq_count (F := ct.1.2.2.2.1) C gL_isCounter_X6_count dL_isCounter_211 ⟨Nat.le_of_ble_eq_true rfl, Nat.le_of_ble_eq_true rfl⟩ ⟨Nat.le_of_ble_eq_true rfl, Nat.le_of_ble_eq_true rfl⟩ hx.1 ht 3 ⟨by omega, by omega⟩ (pa_count3 (kp := J.1)) (Nat.le_of_ble_eq_true rfl) ?_
          refine z_iload_n C 5 dL_isCounter_214 rfl ?_
          refine z_icmp_ne C 286 dL_isCounter_215 (by decide) ⟨by omega, by omega⟩ ⟨by omega, by omega⟩ (fun hc4 => absurd hc4 (by omega)) (fun hc4 => ?_)
          refine z_aload_n C 2 dL_isCounter_218 rfl ?_
          refine z_iconst C 2 dL_isCounter_219 ?_
          refine pq_count (F := ct.2.2.2.2.1) C gL_isCounter_X6_count dL_isCounter_220 ⟨Nat.le_of_ble_eq_true rfl, Nat.le_of_ble_eq_true rfl⟩ ⟨Nat.le_of_ble_eq_true rfl, Nat.le_of_ble_eq_true rfl⟩ hx.1 ht 2 ⟨by omega, by omega⟩ (pa_count2 (kp := J.1)) (Nat.le_of_ble_eq_true rfl) ?_
          refine z_iload C 1 dL_isCounter_223 rfl ?_
          refine z_iconst C 1 dL_isCounter_225 ?_
          refine z_iload_n C 3 dL_isCounter_226 rfl ?_
          refine z_ishl C (z_p2 ct.1.2.1) dL_isCounter_227 (z_shl1 (by omega)) ?_
          refine z_irem C dL_isCounter_228 ⟨by omega, by omega⟩ ⟨by omega, by omega⟩ ?_
          refine z_icmp_ne C 286 dL_isCounter_229 (by decide) ⟨by omega, by omega⟩ ⟨by omega, by omega⟩ (fun hc5 => absurd hc5 (by omega)) (fun hc5 => ?_)
          refine z_iload C 0 dL_isCounter_232 rfl ?_
          refine z_if_eq C 246 dL_isCounter_234 (by decide) ⟨by omega, by omega⟩ (fun hc6 => ?_) (fun hc6 => absurd hc6 (by omega))
          refine z_aload_n C 2 dL_isCounter_246 rfl ?_
          refine z_iload_n C 3 dL_isCounter_247 rfl ?_
          refine z_iconst C 0 dL_isCounter_248 ?_
          refine pq_of (F := (-1)) C gL_isCounter_X6_of dL_isCounter_249 ⟨Nat.le_of_ble_eq_true rfl, Nat.le_of_ble_eq_true rfl⟩ ⟨Nat.le_of_ble_eq_true rfl, Nat.le_of_ble_eq_true rfl⟩ hx.1 ht ct.1.2.1 0 ⟨by omega, by omega⟩ ⟨by omega, by omega⟩ (pa_ofN (by omega)) (Nat.le_of_ble_eq_true rfl) ?_
          refine z_iconst C (-1) dL_isCounter_252 ?_
          refine z_icmp_ne C 286 dL_isCounter_253 (by decide) ⟨by omega, by omega⟩ ⟨by omega, by omega⟩ (fun hc7 => absurd hc7 (by omega)) (fun hc7 => ?_)
          refine z_aload_n C 2 dL_isCounter_256 rfl ?_
          refine pq_stillIn (F := x_si0 ct) C gL_isCounter_X6_stillIn dL_isCounter_257 ⟨Nat.le_of_ble_eq_true rfl, Nat.le_of_ble_eq_true rfl⟩ ⟨Nat.le_of_ble_eq_true rfl, Nat.le_of_ble_eq_true rfl⟩ hx.1 ht   pa_stillIn (Nat.le_of_ble_eq_true rfl) ?_
          obtain ⟨jt8, ejt8, hjt8⟩ : ∃ j : p_J, p_tr J (z_si ct.1 0 101).2 = j ∧ p_ok j := ⟨_, rfl, p_tr_ok hJ _⟩
          rw [ejt8]
          refine z_if_ne C 267 dL_isCounter_260 (by decide) ⟨by omega, by omega⟩ (fun hc9 => ?_) (fun hc9 => absurd hc9 (by omega))
          refine z_iconst C 0 dL_isCounter_267 ?_
          refine z_iload C 0 dL_isCounter_268 rfl ?_
          refine z_icmp_ne C 286 dL_isCounter_270 (by decide) ⟨by omega, by omega⟩ ⟨by omega, by omega⟩ (fun hc10 => absurd hc10 (by omega)) (fun hc10 => ?_)
          refine z_aload_n C 2 dL_isCounter_273 rfl ?_
          refine z_iconst C 0 dL_isCounter_274 ?_
          refine pq_showsIn (F := ct.1.2.2.1) C gL_isCounter_X6_showsIn dL_isCounter_275 ⟨Nat.le_of_ble_eq_true rfl, Nat.le_of_ble_eq_true rfl⟩ ⟨Nat.le_of_ble_eq_true rfl, Nat.le_of_ble_eq_true rfl⟩ hx.1 ht 0 ⟨by omega, by omega⟩ (pa_showsIn0 (tr := jt8.2.2.2)) (Nat.le_of_ble_eq_true rfl) ?_
          obtain ⟨jt11, ejt11, hjt11⟩ : ∃ j : p_J, p_tr jt8 (z_sh ct.1 jt8.2.2.2 0).2 = j ∧ p_ok j := ⟨_, rfl, p_tr_ok hjt8 _⟩
          rw [ejt11]
          refine z_iload_n C 4 dL_isCounter_278 rfl ?_
          refine z_icmp_ne C 286 dL_isCounter_279 (by decide) ⟨by omega, by omega⟩ ⟨by omega, by omega⟩ (fun hc12 => absurd hc12 (by omega)) (fun hc12 => ?_)
          refine z_iconst C 1 dL_isCounter_282 ?_
          refine z_goto C 287 dL_isCounter_283 (by decide) ?_
          exact z_zrete C hQ jt11 rfl ⟨rfl, hjt11⟩ (Or.inr rfl) dL_isCounter_287
        · skip
          refine z_iconst C 1 dL_isCounter_193 ?_
          refine z_goto C 198 dL_isCounter_194 (by decide) ?_
          refine z_istore C [(5, .int (z_I 1)), (4, .int (z_I ((ct.1.2.2.2.2.2.1 0) + (x_o2 ct 0)))), (0, .ref (g 0)), (1, .int (z_I ct.1.2.1)), (2, .int (z_I a_9)), (3, .int (z_I b_9))] dL_isCounter_198 (by decide) rfl ?_
          refine z_aload_n C 2 dL_isCounter_200 rfl ?_
          refine z_iconst C 1 dL_isCounter_201 ?_
          refine pq_count (F := ct.1.2.2.1) C gL_isCounter_X6_count dL_isCounter_202 ⟨Nat.le_of_ble_eq_true rfl, Nat.le_of_ble_eq_true rfl⟩ ⟨Nat.le_of_ble_eq_true rfl, Nat.le_of_ble_eq_true rfl⟩ hx.1 ht 1 ⟨by omega, by omega⟩ (pa_count1 (kp := J.1)) (Nat.le_of_ble_eq_true rfl) ?_
          refine z_iload_n C 4 dL_isCounter_205 rfl ?_
          refine z_icmp_ne C 286 dL_isCounter_206 (by decide) ⟨by omega, by omega⟩ ⟨by omega, by omega⟩ (fun hc13 => absurd hc13 (by omega)) (fun hc13 => ?_)
          refine z_aload_n C 2 dL_isCounter_209 rfl ?_
          refine z_iconst C 3 dL_isCounter_210 ?_
          refine pq_count (F := ct.1.2.2.2.1) C gL_isCounter_X6_count dL_isCounter_211 ⟨Nat.le_of_ble_eq_true rfl, Nat.le_of_ble_eq_true rfl⟩ ⟨Nat.le_of_ble_eq_true rfl, Nat.le_of_ble_eq_true rfl⟩ hx.1 ht 3 ⟨by omega, by omega⟩ (pa_count3 (kp := J.1)) (Nat.le_of_ble_eq_true rfl) ?_
          refine z_iload_n C 5 dL_isCounter_214 rfl ?_
          refine z_icmp_ne C 286 dL_isCounter_215 (by decide) ⟨by omega, by omega⟩ ⟨by omega, by omega⟩ (fun hc14 => absurd hc14 (by omega)) (fun hc14 => ?_)
          refine z_aload_n C 2 dL_isCounter_218 rfl ?_
          refine z_iconst C 2 dL_isCounter_219 ?_
          refine pq_count (F := ct.2.2.2.2.1) C gL_isCounter_X6_count dL_isCounter_220 ⟨Nat.le_of_ble_eq_true rfl, Nat.le_of_ble_eq_true rfl⟩ ⟨Nat.le_of_ble_eq_true rfl, Nat.le_of_ble_eq_true rfl⟩ hx.1 ht 2 ⟨by omega, by omega⟩ (pa_count2 (kp := J.1)) (Nat.le_of_ble_eq_true rfl) ?_
          refine z_iload C 1 dL_isCounter_223 rfl ?_
          refine z_iconst C 1 dL_isCounter_225 ?_
          refine z_iload_n C 3 dL_isCounter_226 rfl ?_
          refine z_ishl C (z_p2 ct.1.2.1) dL_isCounter_227 (z_shl1 (by omega)) ?_
          refine z_irem C dL_isCounter_228 ⟨by omega, by omega⟩ ⟨by omega, by omega⟩ ?_
          refine z_icmp_ne C 286 dL_isCounter_229 (by decide) ⟨by omega, by omega⟩ ⟨by omega, by omega⟩ (fun hc15 => absurd hc15 (by omega)) (fun hc15 => ?_)
          refine z_iload C 0 dL_isCounter_232 rfl ?_
          refine z_if_eq C 246 dL_isCounter_234 (by decide) ⟨by omega, by omega⟩ (fun hc16 => absurd hc16 (by omega)) (fun hc16 => ?_)
          refine z_iload_n C 4 dL_isCounter_237 rfl ?_
          refine z_aload_n C 2 dL_isCounter_238 rfl ?_
          refine z_iconst C 2 dL_isCounter_239 ?_
          refine pq_count (F := ct.2.2.2.2.1) C gL_isCounter_X6_count dL_isCounter_240 ⟨Nat.le_of_ble_eq_true rfl, Nat.le_of_ble_eq_true rfl⟩ ⟨Nat.le_of_ble_eq_true rfl, Nat.le_of_ble_eq_true rfl⟩ hx.1 ht 2 ⟨by omega, by omega⟩ (pa_count2 (kp := J.1)) (Nat.le_of_ble_eq_true rfl) ?_
          refine z_icmp_ne C 286 dL_isCounter_243 (by decide) ⟨by omega, by omega⟩ ⟨by omega, by omega⟩ (fun hc17 => absurd hc17 (by omega)) (fun hc17 => ?_)
          refine z_aload_n C 2 dL_isCounter_246 rfl ?_
          refine z_iload_n C 3 dL_isCounter_247 rfl ?_
          refine z_iconst C 0 dL_isCounter_248 ?_
          refine pq_of (F := (-1)) C gL_isCounter_X6_of dL_isCounter_249 ⟨Nat.le_of_ble_eq_true rfl, Nat.le_of_ble_eq_true rfl⟩ ⟨Nat.le_of_ble_eq_true rfl, Nat.le_of_ble_eq_true rfl⟩ hx.1 ht ct.1.2.1 0 ⟨by omega, by omega⟩ ⟨by omega, by omega⟩ (pa_ofN (by omega)) (Nat.le_of_ble_eq_true rfl) ?_
          refine z_iconst C (-1) dL_isCounter_252 ?_
          refine z_icmp_ne C 286 dL_isCounter_253 (by decide) ⟨by omega, by omega⟩ ⟨by omega, by omega⟩ (fun hc18 => absurd hc18 (by omega)) (fun hc18 => ?_)
          refine z_aload_n C 2 dL_isCounter_256 rfl ?_
          refine pq_stillIn (F := x_si0 ct) C gL_isCounter_X6_stillIn dL_isCounter_257 ⟨Nat.le_of_ble_eq_true rfl, Nat.le_of_ble_eq_true rfl⟩ ⟨Nat.le_of_ble_eq_true rfl, Nat.le_of_ble_eq_true rfl⟩ hx.1 ht   pa_stillIn (Nat.le_of_ble_eq_true rfl) ?_
          obtain ⟨jt19, ejt19, hjt19⟩ : ∃ j : p_J, p_tr J (z_si ct.1 0 101).2 = j ∧ p_ok j := ⟨_, rfl, p_tr_ok hJ _⟩
          rw [ejt19]
          refine z_if_ne C 267 dL_isCounter_260 (by decide) ⟨by omega, by omega⟩ (fun hc20 => absurd hc20 (by omega)) (fun hc20 => ?_)
          refine z_iconst C 1 dL_isCounter_263 ?_
          refine z_goto C 268 dL_isCounter_264 (by decide) ?_
          refine z_iload C 0 dL_isCounter_268 rfl ?_
          refine z_icmp_ne C 286 dL_isCounter_270 (by decide) ⟨by omega, by omega⟩ ⟨by omega, by omega⟩ (fun hc21 => absurd hc21 (by omega)) (fun hc21 => ?_)
          refine z_aload_n C 2 dL_isCounter_273 rfl ?_
          refine z_iconst C 0 dL_isCounter_274 ?_
          refine pq_showsIn (F := ct.1.2.2.1) C gL_isCounter_X6_showsIn dL_isCounter_275 ⟨Nat.le_of_ble_eq_true rfl, Nat.le_of_ble_eq_true rfl⟩ ⟨Nat.le_of_ble_eq_true rfl, Nat.le_of_ble_eq_true rfl⟩ hx.1 ht 0 ⟨by omega, by omega⟩ (pa_showsIn0 (tr := jt19.2.2.2)) (Nat.le_of_ble_eq_true rfl) ?_
          obtain ⟨jt22, ejt22, hjt22⟩ : ∃ j : p_J, p_tr jt19 (z_sh ct.1 jt19.2.2.2 0).2 = j ∧ p_ok j := ⟨_, rfl, p_tr_ok hjt19 _⟩
          rw [ejt22]
          refine z_iload_n C 4 dL_isCounter_278 rfl ?_
          refine z_icmp_ne C 286 dL_isCounter_279 (by decide) ⟨by omega, by omega⟩ ⟨by omega, by omega⟩ (fun hc23 => absurd hc23 (by omega)) (fun hc23 => ?_)
          refine z_iconst C 1 dL_isCounter_282 ?_
          refine z_goto C 287 dL_isCounter_283 (by decide) ?_
          exact z_zrete C hQ jt22 rfl ⟨rfl, hjt22⟩ (Or.inr rfl) dL_isCounter_287
      · skip
        obtain ⟨dlk, bik, dnk, o2k, o23, o3k, dnp⟩ := x_stg hx (k := k_9) ⟨hk0, by omega⟩
        have b01 := x_bit01 ct.1.2.2.1 k_9
        refine z_aload_n C 0 dL_isCounter_20 rfl ?_
        refine z_iload C 4 dL_isCounter_21 rfl ?_
        refine z_iconst C 1 dL_isCounter_23 ?_
        refine pq_of (F := z_bit ct.1.2.2.1 k_9) C gL_isCounter_X6_of dL_isCounter_24 ⟨Nat.le_of_ble_eq_true rfl, Nat.le_of_ble_eq_true rfl⟩ ⟨Nat.le_of_ble_eq_true rfl, Nat.le_of_ble_eq_true rfl⟩ hx.1 ht k_9 1 ⟨by omega, by omega⟩ ⟨by omega, by omega⟩ (pa_of1 (by omega)) (Nat.le_of_ble_eq_true rfl) ?_
        refine z_istore C [(5, .int (z_I (z_bit ct.1.2.2.1 k_9))), (0, .ref (g 0)), (1, .int (z_I ct.1.2.1)), (2, .int (z_I a_9)), (3, .int (z_I b_9)), (4, .int (z_I k_9))] dL_isCounter_27 (by decide) rfl ?_
        refine z_aload_n C 1 dL_isCounter_29 rfl ?_
        refine z_iload C 5 dL_isCounter_30 rfl ?_
        refine z_iconst C 3 dL_isCounter_32 ?_
        refine pq_of (F := x_o3 ct k_9) C gL_isCounter_X6_of dL_isCounter_33 ⟨Nat.le_of_ble_eq_true rfl, Nat.le_of_ble_eq_true rfl⟩ ⟨Nat.le_of_ble_eq_true rfl, Nat.le_of_ble_eq_true rfl⟩ hx.1 ht k_9 3 ⟨by omega, by omega⟩ ⟨by omega, by omega⟩ (pa_of3 (by omega)) (Nat.le_of_ble_eq_true rfl) ?_
        refine z_istore C [(6, .int (z_I (x_o3 ct k_9))), (5, .int (z_I (z_bit ct.1.2.2.1 k_9))), (0, .ref (g 0)), (1, .int (z_I ct.1.2.1)), (2, .int (z_I a_9)), (3, .int (z_I b_9)), (4, .int (z_I k_9))] dL_isCounter_36 (by decide) rfl ?_
        refine z_iload_n C 4 dL_isCounter_38 rfl ?_
        refine z_iload C 1 dL_isCounter_39 rfl ?_
        refine z_iload C 6 dL_isCounter_41 rfl ?_
        refine z_ishl C ((z_bit ct.1.2.2.1 k_9) * z_p2 k_9) dL_isCounter_43 (z_shlb b01 ⟨hk0, by omega⟩) ?_
        refine z_iadd C dL_isCounter_44 ?_
        refine z_istore_n C [(2, .int (z_I (a_9 + ((z_bit ct.1.2.2.1 k_9) * z_p2 k_9)))), (6, .int (z_I (x_o3 ct k_9))), (5, .int (z_I (z_bit ct.1.2.2.1 k_9))), (0, .ref (g 0)), (1, .int (z_I ct.1.2.1)), (3, .int (z_I b_9)), (4, .int (z_I k_9))] dL_isCounter_45 (by decide) rfl ?_
        refine z_iload_n C 5 dL_isCounter_46 rfl ?_
        refine z_aload_n C 3 dL_isCounter_47 rfl ?_
        refine z_iload C 6 dL_isCounter_48 rfl ?_
        refine z_iconst C 2 dL_isCounter_50 ?_
        refine pq_of (F := x_o2 ct k_9) C gL_isCounter_X6_of dL_isCounter_51 ⟨Nat.le_of_ble_eq_true rfl, Nat.le_of_ble_eq_true rfl⟩ ⟨Nat.le_of_ble_eq_true rfl, Nat.le_of_ble_eq_true rfl⟩ hx.1 ht k_9 2 ⟨by omega, by omega⟩ ⟨by omega, by omega⟩ (pa_of2 (by omega)) (Nat.le_of_ble_eq_true rfl) ?_
        refine z_iadd C dL_isCounter_54 ?_
        refine z_istore_n C [(3, .int (z_I (b_9 + (x_o2 ct k_9)))), (2, .int (z_I (a_9 + ((z_bit ct.1.2.2.1 k_9) * z_p2 k_9)))), (6, .int (z_I (x_o3 ct k_9))), (5, .int (z_I (z_bit ct.1.2.2.1 k_9))), (0, .ref (g 0)), (1, .int (z_I ct.1.2.1)), (4, .int (z_I k_9))] dL_isCounter_55 (by decide) rfl ?_
        refine z_iload C 3 dL_isCounter_56 rfl ?_
        refine z_aload_n C 4 dL_isCounter_58 rfl ?_
        refine z_iload C 6 dL_isCounter_59 rfl ?_
        refine z_iconst C 4 dL_isCounter_61 ?_
        refine pq_of (F := ct.1.2.2.2.2.2.1 k_9) C gL_isCounter_X6_of dL_isCounter_62 ⟨Nat.le_of_ble_eq_true rfl, Nat.le_of_ble_eq_true rfl⟩ ⟨Nat.le_of_ble_eq_true rfl, Nat.le_of_ble_eq_true rfl⟩ hx.1 ht k_9 4 ⟨by omega, by omega⟩ ⟨by omega, by omega⟩ (pa_of4 (by omega)) (Nat.le_of_ble_eq_true rfl) ?_
        refine z_iconst C 2 dL_isCounter_65 ?_
        refine z_irem C dL_isCounter_66 ⟨by omega, by omega⟩ ⟨by omega, by omega⟩ ?_
        refine z_icmp_ne C 130 dL_isCounter_67 (by decide) ⟨by omega, by omega⟩ ⟨by omega, by omega⟩ (fun hc24 => absurd hc24 (by omega)) (fun hc24 => ?_)
        refine z_aload_n C 4 dL_isCounter_70 rfl ?_
        refine z_iload C 6 dL_isCounter_71 rfl ?_
        refine z_iconst C 2 dL_isCounter_73 ?_
        refine pq_of (F := x_o2 ct k_9) C gL_isCounter_X6_of dL_isCounter_74 ⟨Nat.le_of_ble_eq_true rfl, Nat.le_of_ble_eq_true rfl⟩ ⟨Nat.le_of_ble_eq_true rfl, Nat.le_of_ble_eq_true rfl⟩ hx.1 ht k_9 2 ⟨by omega, by omega⟩ ⟨by omega, by omega⟩ (pa_of2 (by omega)) (Nat.le_of_ble_eq_true rfl) ?_
        refine z_if_ne C 84 dL_isCounter_77 (by decide) ⟨by omega, by omega⟩ (fun hc25 => ?_) (fun hc25 => ?_)
        · skip
          refine z_iconst C 0 dL_isCounter_84 ?_
          refine z_iload C 2 dL_isCounter_85 rfl ?_
          refine z_bipush C (-6) dL_isCounter_87 (by decide) ?_
          refine z_icmp_ne C 96 dL_isCounter_89 (by decide) ⟨by omega, by omega⟩ ⟨by omega, by omega⟩ (fun hc26 => ?_) (fun hc26 => absurd hc26 (by omega))
          refine z_iconst C 0 dL_isCounter_96 ?_
          refine z_icmp_ne C 130 dL_isCounter_97 (by decide) ⟨by omega, by omega⟩ ⟨by omega, by omega⟩ (fun hc27 => absurd hc27 (by omega)) (fun hc27 => ?_)
          refine z_iload C 2 dL_isCounter_100 rfl ?_
          refine z_bipush C 20 dL_isCounter_102 (by decide) ?_
          refine z_icmp_gt C 130 dL_isCounter_104 (by decide) ⟨by omega, by omega⟩ ⟨by omega, by omega⟩ (fun hc28 => absurd hc28 (by omega)) (fun hc28 => ?_)
          refine z_aload_n C 4 dL_isCounter_107 rfl ?_
          refine z_iload C 6 dL_isCounter_108 rfl ?_
          refine z_iconst C 0 dL_isCounter_110 ?_
          refine pq_of (F := ct.1.2.2.2.2.1 k_9) C gL_isCounter_X6_of dL_isCounter_111 ⟨Nat.le_of_ble_eq_true rfl, Nat.le_of_ble_eq_true rfl⟩ ⟨Nat.le_of_ble_eq_true rfl, Nat.le_of_ble_eq_true rfl⟩ hx.1 ht k_9 0 ⟨by omega, by omega⟩ ⟨by omega, by omega⟩ (pa_of0 (by omega)) (Nat.le_of_ble_eq_true rfl) ?_
          refine z_iconst C 1 dL_isCounter_114 ?_
          refine z_icmp_lt C 130 dL_isCounter_115 (by decide) ⟨by omega, by omega⟩ ⟨by omega, by omega⟩ (fun hc29 => absurd hc29 (by omega)) (fun hc29 => ?_)
          refine z_aload_n C 4 dL_isCounter_118 rfl ?_
          refine z_iload C 6 dL_isCounter_119 rfl ?_
          refine z_iconst C 0 dL_isCounter_121 ?_
          refine pq_of (F := ct.1.2.2.2.2.1 k_9) C gL_isCounter_X6_of dL_isCounter_122 ⟨Nat.le_of_ble_eq_true rfl, Nat.le_of_ble_eq_true rfl⟩ ⟨Nat.le_of_ble_eq_true rfl, Nat.le_of_ble_eq_true rfl⟩ hx.1 ht k_9 0 ⟨by omega, by omega⟩ ⟨by omega, by omega⟩ (pa_of0 (by omega)) (Nat.le_of_ble_eq_true rfl) ?_
          refine z_bipush C 20 dL_isCounter_125 (by decide) ?_
          refine z_icmp_le C 132 dL_isCounter_127 (by decide) ⟨by omega, by omega⟩ ⟨by omega, by omega⟩ (fun hc30 => ?_) (fun hc30 => absurd hc30 (by omega))
          refine z_iload C 6 dL_isCounter_132 rfl ?_
          refine z_if_le C 168 dL_isCounter_134 (by decide) ⟨by omega, by omega⟩ (fun hc31 => ?_) (fun hc31 => ?_)
          · skip
            refine z_iinc C 6 [(4, .int (z_I (k_9 + 1))), (3, .int (z_I (b_9 + (x_o2 ct k_9)))), (2, .int (z_I (a_9 + ((z_bit ct.1.2.2.1 k_9) * z_p2 k_9)))), (6, .int (z_I (x_o3 ct k_9))), (5, .int (z_I (z_bit ct.1.2.2.1 k_9))), (0, .ref (g 0)), (1, .int (z_I ct.1.2.1))] dL_isCounter_168 rfl (by decide) rfl ?_
            refine z_goto C 14 dL_isCounter_171 (by decide) ?_
            refine z_lsub [(0, .ref (g 0)), (1, .int (z_I ct.1.2.1)), (2, .int (z_I (a_9 + ((z_bit ct.1.2.2.1 k_9) * z_p2 k_9)))), (3, .int (z_I (b_9 + (x_o2 ct k_9)))), (4, .int (z_I (k_9 + 1)))] [5, 6, 2, 1, 0] rfl ?_
            exact ih14 (k_9 + 1) (a_9 + z_bit ct.1.2.2.1 k_9 * z_p2 k_9) (b_9 + x_o2 ct k_9) (by first | assumption | omega) (by first | assumption | omega) (by rw [x_pS_s hk0, ha]) (by rw [x_pW_s hk0, hb]) (by omega)
          · skip
            obtain ⟨dn1, dn2, dn3⟩ := dnp (by omega)
            refine z_aload_n C 4 dL_isCounter_137 rfl ?_
            refine z_iload C 6 dL_isCounter_138 rfl ?_
            refine z_iconst C 4 dL_isCounter_140 ?_
            refine pq_of (F := ct.1.2.2.2.2.2.1 k_9) C gL_isCounter_X6_of dL_isCounter_141 ⟨Nat.le_of_ble_eq_true rfl, Nat.le_of_ble_eq_true rfl⟩ ⟨Nat.le_of_ble_eq_true rfl, Nat.le_of_ble_eq_true rfl⟩ hx.1 ht k_9 4 ⟨by omega, by omega⟩ ⟨by omega, by omega⟩ (pa_of4 (by omega)) (Nat.le_of_ble_eq_true rfl) ?_
            refine z_aload_n C 4 dL_isCounter_144 rfl ?_
            refine z_iload C 6 dL_isCounter_145 rfl ?_
            refine z_iconst C 2 dL_isCounter_147 ?_
            refine pq_of (F := x_o2 ct k_9) C gL_isCounter_X6_of dL_isCounter_148 ⟨Nat.le_of_ble_eq_true rfl, Nat.le_of_ble_eq_true rfl⟩ ⟨Nat.le_of_ble_eq_true rfl, Nat.le_of_ble_eq_true rfl⟩ hx.1 ht k_9 2 ⟨by omega, by omega⟩ ⟨by omega, by omega⟩ (pa_of2 (by omega)) (Nat.le_of_ble_eq_true rfl) ?_
            refine z_iadd C dL_isCounter_151 ?_
            refine z_aload_n C 4 dL_isCounter_152 rfl ?_
            refine z_iload C 6 dL_isCounter_153 rfl ?_
            refine z_iconst C 1 dL_isCounter_155 ?_
            refine z_isub C dL_isCounter_156 ?_
            refine z_iconst C 4 dL_isCounter_157 ?_
            refine pq_of (F := ct.1.2.2.2.2.2.1 (k_9 - 1)) C gL_isCounter_X6_of dL_isCounter_158 ⟨Nat.le_of_ble_eq_true rfl, Nat.le_of_ble_eq_true rfl⟩ ⟨Nat.le_of_ble_eq_true rfl, Nat.le_of_ble_eq_true rfl⟩ hx.1 ht (k_9 - 1) 4 ⟨by omega, by omega⟩ ⟨by omega, by omega⟩ (pa_of4 (by omega)) (Nat.le_of_ble_eq_true rfl) ?_
            refine z_iconst C 2 dL_isCounter_161 ?_
            refine z_idiv C dL_isCounter_162 ⟨by omega, by omega⟩ ⟨by omega, by omega⟩ ?_
            refine z_icmp_eq C 168 dL_isCounter_163 (by decide) ⟨by omega, by omega⟩ ⟨by omega, by omega⟩ (fun hc32 => ?_) (fun hc32 => absurd hc32 (by omega))
            refine z_iinc C 6 [(4, .int (z_I (k_9 + 1))), (3, .int (z_I (b_9 + (x_o2 ct k_9)))), (2, .int (z_I (a_9 + ((z_bit ct.1.2.2.1 k_9) * z_p2 k_9)))), (6, .int (z_I (x_o3 ct k_9))), (5, .int (z_I (z_bit ct.1.2.2.1 k_9))), (0, .ref (g 0)), (1, .int (z_I ct.1.2.1))] dL_isCounter_168 rfl (by decide) rfl ?_
            refine z_goto C 14 dL_isCounter_171 (by decide) ?_
            refine z_lsub [(0, .ref (g 0)), (1, .int (z_I ct.1.2.1)), (2, .int (z_I (a_9 + ((z_bit ct.1.2.2.1 k_9) * z_p2 k_9)))), (3, .int (z_I (b_9 + (x_o2 ct k_9)))), (4, .int (z_I (k_9 + 1)))] [5, 6, 2, 1, 0] rfl ?_
            exact ih14 (k_9 + 1) (a_9 + z_bit ct.1.2.2.1 k_9 * z_p2 k_9) (b_9 + x_o2 ct k_9) (by first | assumption | omega) (by first | assumption | omega) (by rw [x_pS_s hk0, ha]) (by rw [x_pW_s hk0, hb]) (by omega)
        · skip
          refine z_iconst C 1 dL_isCounter_80 ?_
          refine z_goto C 85 dL_isCounter_81 (by decide) ?_
          refine z_iload C 2 dL_isCounter_85 rfl ?_
          refine z_bipush C (-6) dL_isCounter_87 (by decide) ?_
          refine z_icmp_ne C 96 dL_isCounter_89 (by decide) ⟨by omega, by omega⟩ ⟨by omega, by omega⟩ (fun hc33 => absurd hc33 (by omega)) (fun hc33 => ?_)
          refine z_iconst C 1 dL_isCounter_92 ?_
          refine z_goto C 97 dL_isCounter_93 (by decide) ?_
          refine z_icmp_ne C 130 dL_isCounter_97 (by decide) ⟨by omega, by omega⟩ ⟨by omega, by omega⟩ (fun hc34 => absurd hc34 (by omega)) (fun hc34 => ?_)
          refine z_iload C 2 dL_isCounter_100 rfl ?_
          refine z_bipush C 20 dL_isCounter_102 (by decide) ?_
          refine z_icmp_gt C 130 dL_isCounter_104 (by decide) ⟨by omega, by omega⟩ ⟨by omega, by omega⟩ (fun hc35 => absurd hc35 (by omega)) (fun hc35 => ?_)
          refine z_aload_n C 4 dL_isCounter_107 rfl ?_
          refine z_iload C 6 dL_isCounter_108 rfl ?_
          refine z_iconst C 0 dL_isCounter_110 ?_
          refine pq_of (F := ct.1.2.2.2.2.1 k_9) C gL_isCounter_X6_of dL_isCounter_111 ⟨Nat.le_of_ble_eq_true rfl, Nat.le_of_ble_eq_true rfl⟩ ⟨Nat.le_of_ble_eq_true rfl, Nat.le_of_ble_eq_true rfl⟩ hx.1 ht k_9 0 ⟨by omega, by omega⟩ ⟨by omega, by omega⟩ (pa_of0 (by omega)) (Nat.le_of_ble_eq_true rfl) ?_
          refine z_iconst C 1 dL_isCounter_114 ?_
          refine z_icmp_lt C 130 dL_isCounter_115 (by decide) ⟨by omega, by omega⟩ ⟨by omega, by omega⟩ (fun hc36 => absurd hc36 (by omega)) (fun hc36 => ?_)
          refine z_aload_n C 4 dL_isCounter_118 rfl ?_
          refine z_iload C 6 dL_isCounter_119 rfl ?_
          refine z_iconst C 0 dL_isCounter_121 ?_
          refine pq_of (F := ct.1.2.2.2.2.1 k_9) C gL_isCounter_X6_of dL_isCounter_122 ⟨Nat.le_of_ble_eq_true rfl, Nat.le_of_ble_eq_true rfl⟩ ⟨Nat.le_of_ble_eq_true rfl, Nat.le_of_ble_eq_true rfl⟩ hx.1 ht k_9 0 ⟨by omega, by omega⟩ ⟨by omega, by omega⟩ (pa_of0 (by omega)) (Nat.le_of_ble_eq_true rfl) ?_
          refine z_bipush C 20 dL_isCounter_125 (by decide) ?_
          refine z_icmp_le C 132 dL_isCounter_127 (by decide) ⟨by omega, by omega⟩ ⟨by omega, by omega⟩ (fun hc37 => ?_) (fun hc37 => absurd hc37 (by omega))
          refine z_iload C 6 dL_isCounter_132 rfl ?_
          refine z_if_le C 168 dL_isCounter_134 (by decide) ⟨by omega, by omega⟩ (fun hc38 => ?_) (fun hc38 => ?_)
          · skip
            refine z_iinc C 6 [(4, .int (z_I (k_9 + 1))), (3, .int (z_I (b_9 + (x_o2 ct k_9)))), (2, .int (z_I (a_9 + ((z_bit ct.1.2.2.1 k_9) * z_p2 k_9)))), (6, .int (z_I (x_o3 ct k_9))), (5, .int (z_I (z_bit ct.1.2.2.1 k_9))), (0, .ref (g 0)), (1, .int (z_I ct.1.2.1))] dL_isCounter_168 rfl (by decide) rfl ?_
            refine z_goto C 14 dL_isCounter_171 (by decide) ?_
            refine z_lsub [(0, .ref (g 0)), (1, .int (z_I ct.1.2.1)), (2, .int (z_I (a_9 + ((z_bit ct.1.2.2.1 k_9) * z_p2 k_9)))), (3, .int (z_I (b_9 + (x_o2 ct k_9)))), (4, .int (z_I (k_9 + 1)))] [5, 6, 2, 1, 0] rfl ?_
            exact ih14 (k_9 + 1) (a_9 + z_bit ct.1.2.2.1 k_9 * z_p2 k_9) (b_9 + x_o2 ct k_9) (by first | assumption | omega) (by first | assumption | omega) (by rw [x_pS_s hk0, ha]) (by rw [x_pW_s hk0, hb]) (by omega)
          · skip
            obtain ⟨dn1, dn2, dn3⟩ := dnp (by omega)
            refine z_aload_n C 4 dL_isCounter_137 rfl ?_
            refine z_iload C 6 dL_isCounter_138 rfl ?_
            refine z_iconst C 4 dL_isCounter_140 ?_
            refine pq_of (F := ct.1.2.2.2.2.2.1 k_9) C gL_isCounter_X6_of dL_isCounter_141 ⟨Nat.le_of_ble_eq_true rfl, Nat.le_of_ble_eq_true rfl⟩ ⟨Nat.le_of_ble_eq_true rfl, Nat.le_of_ble_eq_true rfl⟩ hx.1 ht k_9 4 ⟨by omega, by omega⟩ ⟨by omega, by omega⟩ (pa_of4 (by omega)) (Nat.le_of_ble_eq_true rfl) ?_
            refine z_aload_n C 4 dL_isCounter_144 rfl ?_
            refine z_iload C 6 dL_isCounter_145 rfl ?_
            refine z_iconst C 2 dL_isCounter_147 ?_
            refine pq_of (F := x_o2 ct k_9) C gL_isCounter_X6_of dL_isCounter_148 ⟨Nat.le_of_ble_eq_true rfl, Nat.le_of_ble_eq_true rfl⟩ ⟨Nat.le_of_ble_eq_true rfl, Nat.le_of_ble_eq_true rfl⟩ hx.1 ht k_9 2 ⟨by omega, by omega⟩ ⟨by omega, by omega⟩ (pa_of2 (by omega)) (Nat.le_of_ble_eq_true rfl) ?_
            refine z_iadd C dL_isCounter_151 ?_
            refine z_aload_n C 4 dL_isCounter_152 rfl ?_
            refine z_iload C 6 dL_isCounter_153 rfl ?_
            refine z_iconst C 1 dL_isCounter_155 ?_
            refine z_isub C dL_isCounter_156 ?_
            refine z_iconst C 4 dL_isCounter_157 ?_
            refine pq_of (F := ct.1.2.2.2.2.2.1 (k_9 - 1)) C gL_isCounter_X6_of dL_isCounter_158 ⟨Nat.le_of_ble_eq_true rfl, Nat.le_of_ble_eq_true rfl⟩ ⟨Nat.le_of_ble_eq_true rfl, Nat.le_of_ble_eq_true rfl⟩ hx.1 ht (k_9 - 1) 4 ⟨by omega, by omega⟩ ⟨by omega, by omega⟩ (pa_of4 (by omega)) (Nat.le_of_ble_eq_true rfl) ?_
            refine z_iconst C 2 dL_isCounter_161 ?_
            refine z_idiv C dL_isCounter_162 ⟨by omega, by omega⟩ ⟨by omega, by omega⟩ ?_
            refine z_icmp_eq C 168 dL_isCounter_163 (by decide) ⟨by omega, by omega⟩ ⟨by omega, by omega⟩ (fun hc39 => ?_) (fun hc39 => absurd hc39 (by omega))
            refine z_iinc C 6 [(4, .int (z_I (k_9 + 1))), (3, .int (z_I (b_9 + (x_o2 ct k_9)))), (2, .int (z_I (a_9 + ((z_bit ct.1.2.2.1 k_9) * z_p2 k_9)))), (6, .int (z_I (x_o3 ct k_9))), (5, .int (z_I (z_bit ct.1.2.2.1 k_9))), (0, .ref (g 0)), (1, .int (z_I ct.1.2.1))] dL_isCounter_168 rfl (by decide) rfl ?_
            refine z_goto C 14 dL_isCounter_171 (by decide) ?_
            refine z_lsub [(0, .ref (g 0)), (1, .int (z_I ct.1.2.1)), (2, .int (z_I (a_9 + ((z_bit ct.1.2.2.1 k_9) * z_p2 k_9)))), (3, .int (z_I (b_9 + (x_o2 ct k_9)))), (4, .int (z_I (k_9 + 1)))] [5, 6, 2, 1, 0] rfl ?_
            exact ih14 (k_9 + 1) (a_9 + z_bit ct.1.2.2.1 k_9 * z_p2 k_9) (b_9 + x_o2 ct k_9) (by first | assumption | omega) (by first | assumption | omega) (by rw [x_pS_s hk0, ha]) (by rw [x_pW_s hk0, hb]) (by omega)
  refine z_lsub [(0, .ref (g 0)), (1, .int (z_I ct.1.2.1)), (2, .int (z_I 0)), (3, .int (z_I 0)), (4, .int (z_I 0))] [4, 3, 2, 1, 0] rfl ?_
  exact loop14 6 0 0 0 (by first | assumption | omega) (by first | assumption | omega) rfl rfl (by omega)
