theorem z_lret {p : Program} {l : Launch} {e : Env} {s : State} {m : MethodId} {below : List Frame} {meth : Method} {c : Code} {D : va_G} {tys : List (ClassId × FieldType)} {b nL kc ks pc : Nat} {ws : va_W} {lv : List (Nat × Value)} {Ts : List Cond} (C : z_C p s m #[Value.ref b] meth c D tys (fun q : Nat => s.heap.size ≤ q) cL_law nL RL Ts ret) (hk : kc ≤ 600000 ∧ ks ≤ 7302250) (hdg : decode cL_law pc = .ok (.ireturn, 1)) : z_V p l e room_1 s m #[Value.ref b] below meth c D (fun q : Nat => s.heap.size ≤ q) nL kc ks (lw_Z below #[Value.ref b] s) ws pc lv [.int (z_I 1)] := by
  intro H locs ls hP hD hS h
  refine va_forget (fun q hq => hS.2.2 q hq) ?_
  refine W.widen (k := 600000) (n := 7302250) hk.1 hk.2 ?_
  exact lw_ret C.1 C.2.1 C.2.2.2.2.2.2.1 C.2.2.2.2.2.2.2.1 hdg
set_option maxHeartbeats 4000000 in
set_option maxRecDepth 100000 in
theorem lw_loop {p : Program} {l : Launch} {e : Env} {s : State} {m : MethodId} {below : List Frame} {meth : Method} {c : Code} {D : va_G} {cI cZ cO : ClassId} {kc ks b L : Nat} {xs : Nat → Int32} {g : Nat → Nat} (C : z_C p s m #[Value.ref b] meth c D (z_T cI cZ cO) (fun q : Nat => s.heap.size ≤ q) cL_law 4 RL wsL_law ret) (hX : va_X b L xs s s.heap) (hbl : b < s.heap.size) (hL : L ≤ 1536) (hkc : kc ≤ 600000 ∧ ks ≤ 7302250) :
    ∀ (n : Nat) (i : Int) (ct : z_Ct) (kp od : Int) (hr : Int → z_Ct) (sl : Int → z_Ct) (us : Int → Int) (tr : z_Wv) (pl : Int) (sg : Int → Int) (kn : Int) (f pf slf svf pd : Int → Int), 0 ≤ i → (L : Int) + 3 - i < (n : Int) → i ≤ (L : Int) + 3 → lw_inv ct kp od hr sl us pl sg kn f pf slf svf pd → z_V p l e room_1 s m #[Value.ref b] below meth c D (fun q : Nat => s.heap.size ≤ q) 4 kc ks (lw_Z below #[Value.ref b] s) (lw_W cI cZ cO g ct kp od hr sl us tr pl sg kn pl f pf slf svf pd).flatten 18 [(3, .int (z_I i)), (0, .ref b), (1, .ref (g 0)), (2, .ref (g 161))] [] := by
  have hbA : ¬ (fun q : Nat => s.heap.size ≤ q) b := Nat.not_le.mpr hbl

  have exit : ∀ (i : Int) (ct : z_Ct) (kp od : Int) (hr : Int → z_Ct) (sl : Int → z_Ct) (us : Int → Int) (tr : z_Wv) (pl : Int) (sg : Int → Int) (kn : Int) (f pf slf svf pd : Int → Int), z_V p l e room_1 s m #[Value.ref b] below meth c D (fun q : Nat => s.heap.size ≤ q) 4 kc ks (lw_Z below #[Value.ref b] s) (lw_W cI cZ cO g ct kp od hr sl us tr pl sg kn pl f pf slf svf pd).flatten 638 [(3, .int (z_I i)), (0, .ref b), (1, .ref (g 0)), (2, .ref (g 161))] [] := by
    intro i ct kp od hr sl us tr pl sg kn f pf slf svf pd
    refine z_iconst C 1 dL_law_638 ?_
    exact z_lret C hkc dL_law_639

  intro n
  induction n with
  | zero =>
    intro i ct kp od hr sl us tr pl sg kn f pf slf svf pd h1 h2 h3 I
    exact absurd h2 (by omega)
  | succ n ih =>
    intro i ct kp od hr sl us tr pl sg kn f pf slf svf pd h1 h2 h3 I
    have tail : ∀ (ct : z_Ct) (kp od : Int) (hr : Int → z_Ct) (sl : Int → z_Ct) (us : Int → Int) (tr : z_Wv) (pl : Int) (sg : Int → Int) (kn : Int) (f pf slf svf pd : Int → Int), i + 3 ≤ (L : Int) → lw_inv ct kp od hr sl us pl sg kn f pf slf svf pd → z_V p l e room_1 s m #[Value.ref b] below meth c D (fun q : Nat => s.heap.size ≤ q) 4 kc ks (lw_Z below #[Value.ref b] s) (lw_W cI cZ cO g ct kp od hr sl us tr pl sg kn pl f pf slf svf pd).flatten 632 [(3, .int (z_I i)), (0, .ref b), (1, .ref (g 0)), (2, .ref (g 161))] [] := by
      intro ct kp od hr sl us tr pl sg kn f pf slf svf pd h4 I
      refine z_iinc C 0 [(3, .int (z_I (i + 3))), (0, .ref b), (1, .ref (g 0)), (2, .ref (g 161))] dL_law_632 rfl (by decide) rfl ?_
      refine z_goto C 18 dL_law_635 (by decide) ?_
      exact ih (i + 3) ct kp od hr sl us tr pl sg kn f pf slf svf pd (by omega) (by omega) (by omega) I
    refine z_iload_n C 0 dL_law_18 rfl ?_
    refine z_aload_n C 1 dL_law_19 rfl ?_
    refine z_slen C hX hbl hbA dL_law_20 ?_
    refine z_iconst C 3 dL_law_21 ?_
    refine z_isub C dL_law_22 ?_
    refine z_icmp_gt C 638 dL_law_23 (by decide) (by omega) (by omega) (fun hc => ?_) (fun hc => ?_)
    · exact exit i ct kp od hr sl us tr pl sg kn f pf slf svf pd
    · have hi : 0 ≤ i ∧ i + 3 ≤ (L : Int) := by omega
      refine z_aload_n C 1 dL_law_26 rfl ?_
      refine z_iload_n C 0 dL_law_27 rfl ?_
      refine z_sld C hX hbl hbA hL (by omega) dL_law_28 ?_
      refine z_bipush C 31 dL_law_29 (by decide) ?_
      refine z_iand C (lw_x xs i % 32) dL_law_31 (lw_and31 _) ?_
      have hr5 : 0 ≤ lw_x xs i % 32 ∧ lw_x xs i % 32 < 32 := by omega
      by_cases hc0 : lw_x xs i % 32 = 0
      · refine z_tabI C 136 0 dL_law_32 hc0 (by decide) rfl (by decide) ?_
        exact lwc_set C hX hbl hbA hL hi hkc I (fun ct kp od hr sl us tr pl sg kn f pf slf svf pd I => tail ct kp od hr sl us tr pl sg kn f pf slf svf pd hi.2 I)
      by_cases hc1 : lw_x xs i % 32 = 1
      · refine z_tabI C 169 1 dL_law_32 hc1 (by decide) rfl (by decide) ?_
        exact lwc_delay C hX hbl hbA hL hi hkc I (fun ct kp od hr sl us tr pl sg kn f pf slf svf pd I => tail ct kp od hr sl us tr pl sg kn f pf slf svf pd hi.2 I)
      by_cases hc2 : lw_x xs i % 32 = 2
      · refine z_tabI C 202 2 dL_law_32 hc2 (by decide) rfl (by decide) ?_
        exact lwc_clock C hX hbl hbA hL hi hkc I (fun ct kp od hr sl us tr pl sg kn f pf slf svf pd I => tail ct kp od hr sl us tr pl sg kn f pf slf svf pd hi.2 I)
      by_cases hc3 : lw_x xs i % 32 = 3
      · refine z_tabI C 215 3 dL_law_32 hc3 (by decide) rfl (by decide) ?_
        exact lwc_pass C hX hbl hbA hL hi hkc I (fun ct kp od hr sl us tr pl sg kn f pf slf svf pd I => tail ct kp od hr sl us tr pl sg kn f pf slf svf pd hi.2 I)
      by_cases hc4 : lw_x xs i % 32 = 4
      · refine z_tabI C 238 4 dL_law_32 hc4 (by decide) rfl (by decide) ?_
        exact lwc_read C hX hbl hbA hL hi hkc I (fun ct kp od hr sl us tr pl sg kn f pf slf svf pd I => tail ct kp od hr sl us tr pl sg kn f pf slf svf pd hi.2 I)
      by_cases hc5 : lw_x xs i % 32 = 5
      · refine z_tabI C 251 5 dL_law_32 hc5 (by decide) rfl (by decide) ?_
        exact lwc_latch C hX hbl hbA hL hi hkc I (fun ct kp od hr sl us tr pl sg kn f pf slf svf pd I => tail ct kp od hr sl us tr pl sg kn f pf slf svf pd hi.2 I)
      by_cases hc6 : lw_x xs i % 32 = 6
      · refine z_tabI C 264 6 dL_law_32 hc6 (by decide) rfl (by decide) ?_
        exact lwc_of C hX hbl hbA hL hi hkc I (fun ct kp od hr sl us tr pl sg kn f pf slf svf pd I => tail ct kp od hr sl us tr pl sg kn f pf slf svf pd hi.2 I)
      by_cases hc7 : lw_x xs i % 32 = 7
      · refine z_tabI C 297 7 dL_law_32 hc7 (by decide) rfl (by decide) ?_
        exact lwc_reading C hX hbl hbA hL hi hkc I (fun ct kp od hr sl us tr pl sg kn f pf slf svf pd I => tail ct kp od hr sl us tr pl sg kn f pf slf svf pd hi.2 I)
      by_cases hc8 : lw_x xs i % 32 = 8
      · refine z_tabI C 330 8 dL_law_32 hc8 (by decide) rfl (by decide) ?_
        exact lwc_seen C hX hbl hbA hL hi hkc I (fun ct kp od hr sl us tr pl sg kn f pf slf svf pd I => tail ct kp od hr sl us tr pl sg kn f pf slf svf pd hi.2 I)
      by_cases hc9 : lw_x xs i % 32 = 9
      · refine z_tabI C 363 9 dL_law_32 hc9 (by decide) rfl (by decide) ?_
        exact lwc_count C hX hbl hbA hL hi hkc I (fun ct kp od hr sl us tr pl sg kn f pf slf svf pd I => tail ct kp od hr sl us tr pl sg kn f pf slf svf pd hi.2 I)
      by_cases hc10 : lw_x xs i % 32 = 10
      · refine z_tabI C 386 10 dL_law_32 hc10 (by decide) rfl (by decide) ?_
        exact lwc_stillIn C hX hbl hbA hL hi hkc I (fun ct kp od hr sl us tr pl sg kn f pf slf svf pd I => tail ct kp od hr sl us tr pl sg kn f pf slf svf pd hi.2 I)
      by_cases hc11 : lw_x xs i % 32 = 11
      · refine z_tabI C 399 11 dL_law_32 hc11 (by decide) rfl (by decide) ?_
        exact lwc_showsIn C hX hbl hbA hL hi hkc I (fun ct kp od hr sl us tr pl sg kn f pf slf svf pd I => tail ct kp od hr sl us tr pl sg kn f pf slf svf pd hi.2 I)
      by_cases hc12 : lw_x xs i % 32 = 12
      · refine z_tabI C 422 12 dL_law_32 hc12 (by decide) rfl (by decide) ?_
        exact lwc_wrong C hX hbl hbA hL hi hkc I (fun ct kp od hr sl us tr pl sg kn f pf slf svf pd I => tail ct kp od hr sl us tr pl sg kn f pf slf svf pd hi.2 I)
      by_cases hc13 : lw_x xs i % 32 = 13
      · refine z_tabI C 445 13 dL_law_32 hc13 (by decide) rfl (by decide) ?_
        exact lwc_safeGap C hX hbl hbA hL hi hkc I (fun ct kp od hr sl us tr pl sg kn f pf slf svf pd I => tail ct kp od hr sl us tr pl sg kn f pf slf svf pd hi.2 I)
      by_cases hc14 : lw_x xs i % 32 = 14
      · refine z_tabI C 458 14 dL_law_32 hc14 (by decide) rfl (by decide) ?_
        exact lwc_toBlame C hX hbl hbA hL hi hkc I (fun ct kp od hr sl us tr pl sg kn f pf slf svf pd I => tail ct kp od hr sl us tr pl sg kn f pf slf svf pd hi.2 I)
      by_cases hc15 : lw_x xs i % 32 = 15
      · refine z_tabI C 481 15 dL_law_32 hc15 (by decide) rfl (by decide) ?_
        exact lwc_put C hX hbl hbA hL hi hkc I (fun ct kp od hr sl us tr pl sg kn f pf slf svf pd I => tail ct kp od hr sl us tr pl sg kn f pf slf svf pd hi.2 I)
      by_cases hc16 : lw_x xs i % 32 = 16
      · refine z_tabI C 534 16 dL_law_32 hc16 (by decide) rfl (by decide) ?_
        exact lwc_wipe C hX hbl hbA hL hi hkc I (fun ct kp od hr sl us tr pl sg kn f pf slf svf pd I => tail ct kp od hr sl us tr pl sg kn f pf slf svf pd hi.2 I)
      by_cases hc17 : lw_x xs i % 32 = 17
      · refine z_tabI C 547 17 dL_law_32 hc17 (by decide) rfl (by decide) ?_
        exact lwc_fault C hX hbl hbA hL hi hkc I (fun ct kp od hr sl us tr pl sg kn f pf slf svf pd I => tail ct kp od hr sl us tr pl sg kn f pf slf svf pd hi.2 I)
      by_cases hc18 : lw_x xs i % 32 = 18
      · refine z_tabI C 560 18 dL_law_32 hc18 (by decide) rfl (by decide) ?_
        exact lwc_carryOut C hX hbl hbA hL hi hkc I (fun ct kp od hr sl us tr pl sg kn f pf slf svf pd I => tail ct kp od hr sl us tr pl sg kn f pf slf svf pd hi.2 I)
      by_cases hc19 : lw_x xs i % 32 = 19
      · refine z_tabI C 573 19 dL_law_32 hc19 (by decide) rfl (by decide) ?_
        exact lwc_undo C hX hbl hbA hL hi hkc I (fun ct kp od hr sl us tr pl sg kn f pf slf svf pd I => tail ct kp od hr sl us tr pl sg kn f pf slf svf pd hi.2 I)
      by_cases hc20 : lw_x xs i % 32 = 20
      · refine z_tabI C 586 20 dL_law_32 hc20 (by decide) rfl (by decide) ?_
        exact lwc_save C hX hbl hbA hL hi hkc I (fun ct kp od hr sl us tr pl sg kn f pf slf svf pd I => tail ct kp od hr sl us tr pl sg kn f pf slf svf pd hi.2 I)
      by_cases hc21 : lw_x xs i % 32 = 21
      · refine z_tabI C 609 21 dL_law_32 hc21 (by decide) rfl (by decide) ?_
        exact lwc_restore C hX hbl hbA hL hi hkc I (fun ct kp od hr sl us tr pl sg kn f pf slf svf pd I => tail ct kp od hr sl us tr pl sg kn f pf slf svf pd hi.2 I)
      refine z_tabO C 632 dL_law_32 (by omega) (by omega) (by decide) ?_
      exact tail ct kp od hr sl us tr pl sg kn f pf slf svf pd hi.2 I
