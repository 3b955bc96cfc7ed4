/-! ===== the law: its entry, its calls, its end ===== -/
theorem z_lret {p : Program} {l : Launch} {e : Env} {s : State} {m : MethodId} {below : List Frame} {meth : Method} {c : Code} {D : va_G} {tys : List (ClassId × FieldType)} {b nL kc ks pc : Nat} {ws : va_W} {lv : List (Nat × Value)} {Ts : List Cond} (C : z_C p s m #[Value.ref b] meth c D tys (fun q : Nat => s.heap.size ≤ q) cL_law nL RL Ts ret) (hk : kc ≤ 600000 ∧ ks ≤ 7302250) (hdg : decode cL_law pc = .ok (.ireturn, 1)) : z_V p l e room_1 s m #[Value.ref b] below meth c D (fun q : Nat => s.heap.size ≤ q) nL kc ks (lw_Z below #[Value.ref b] s) ws pc lv [.int (z_I 1)] := by
  intro H locs ls hP hD hS h
  refine va_forget (fun q hq => hS.2.2 q hq) ?_
  refine W.widen (k := 600000) (n := 7302250) hk.1 hk.2 ?_
  exact lw_ret C.1 C.2.1 C.2.2.2.2.2.2.1 C.2.2.2.2.2.2.2.1 hdg
section ZLD
variable {p : Program} {l : Launch} {e : Env} {R : Room} {s : State} {m : MethodId} {args : Array Value} {below : List Frame} {meth : Method} {c : Code} {D : va_G} {tys : List (ClassId × FieldType)} {A : Nat → Prop} {cc : ByteArray} {nL cells slots : Nat} {own : String} {Ts : List Cond} {ret : Option FieldType} {Q : State → Prop} {ws : va_W} {pc : Nat} {lv : List (Nat × Value)} {st : List Value}
theorem z_callLM (C : z_C p s m args meth c D tys A cc nL own Ts ret) (As rest : List Value) {y : MethodName} {bytes : ByteArray} {maxL fr lo index n : Nat} {ret' : Option FieldType} {wsy wsy' : List Cond} {w1 : va_W} {F : Int} (hM : z_Mi l y wsy fr lo D tys As ws w1 F) (hG : GoodIn Ts (va_wsS own index y wsy)) (hw : wsy = Cond.code y bytes maxL ret' :: wsy') (hd : y.cls ≠ "java/lang/invoke/MethodHandle" ∧ y.cls ≠ "java/lang/invoke/VarHandle" ∧ (parseMethodDescriptor y.desc).map (fun d => d.parameters.length) = some n) (hn : As.length = n) (hR : fr + 1 ≤ R.frames ∧ 8 + (maxL + 11) + lo ≤ R.locals) (hst : st = As.reverse ++ rest) (hrest : (rest.map fun v => v.category).sum ≤ 8) (hcs : cells ≤ R.cells ∧ slots ≤ R.slots) (hdg : decode cc pc = .ok (.invokestatic index, 3)) (kk : z_V p l e R s m args below meth c D A nL cells slots Q w1 (pc + 3) lv (.int (z_I F) :: rest)) : z_V p l e R s m args below meth c D A nL cells slots Q ws pc lv st := by
  intro H locs ls hP hD hS h
  have hFc := z_freeW C hD hS
  refine va_calli (va_runS (rest := rest) ⟨C.1, C.2.1, C.2.2.1, C.2.2.2.1, C.2.2.2.2.1⟩ (hM H.size) (va_cwS n C.2.2.2.2.1 hG hw rfl rfl hd hR) ⟨z_blind, fun U hU hW => ⟨rfl, by rw [hU], by rw [hU]; exact hP, va_K.moved hW.alike C.2.2.2.2.2.1, hD.weaken (fun _ _ _ _ => trivial)⟩⟩ rfl hn h.1 hst (lv_room hrest) hdg hcs) hS (fun q _ h => hFc q h) hFc (fun r u t H1 locs1 ht hvm hr hB hz1 hk1 hS1 => ?_)
  subst hr
  obtain ⟨hP1, hK1, hD1⟩ := hB
  rw [ht] at hP1
  exact kk H1 locs1 ls hP1 (hD1.weaken (fun _ q _ hA => hFc q.1 hA)) hS1 h
end ZLD
theorem p_app0 (B : List va_W) : [] ++ B.flatten = (B ++ []).flatten := by
  rw [List.nil_append, List.append_nil]
theorem p_undo0 {cI cZ cO : ClassId} {g : Nat → Nat} {ct : z_Ct} {J : p_J} (h : J.1 = 0) : pw cI cZ cO g (if J.1 = 0 then ct else J.2.2.1 ((J.2.1 + (J.1 - 1)) % 7)) ((if J.1 = 0 then 0 else J.1 - 1), J.2.1, J.2.2.1, J.2.2.2) = pw cI cZ cO g ct J := by
  obtain ⟨a, b, c, d⟩ := J
  have h0 : a = 0 := h
  subst h0
  rw [if_pos rfl, if_pos rfl]
theorem p_rest0 {cI cZ cO : ClassId} {g : Nat → Nat} {ct : z_Ct} {J : p_J} : pw cI cZ cO g (if 0 ≤ (1 : Int) ∧ (1 : Int) < 2 ∧ ¬ (fun _ => (0 : Int)) (1 : Int) = 0 then z_ct0 else ct) ((if 0 ≤ (1 : Int) ∧ (1 : Int) < 2 ∧ ¬ (fun _ => (0 : Int)) (1 : Int) = 0 then z_stK z_ct0.2.2.2.2.1 J.1 else J.1), (if 0 ≤ (1 : Int) ∧ (1 : Int) < 2 ∧ ¬ (fun _ => (0 : Int)) (1 : Int) = 0 then z_stO z_ct0.2.2.2.2.1 J.1 J.2.1 else J.2.1), (if 0 ≤ (1 : Int) ∧ (1 : Int) < 2 ∧ ¬ (fun _ => (0 : Int)) (1 : Int) = 0 then z_uc J.2.2.1 ((J.2.1 + J.1) % 7) ct else J.2.2.1), J.2.2.2) = pw cI cZ cO g ct J := by
  have h : ¬ (0 ≤ (1 : Int) ∧ (1 : Int) < 2 ∧ ¬ (fun _ => (0 : Int)) (1 : Int) = 0) := fun q => q.2.2 rfl
  rw [if_neg h, if_neg h, if_neg h, if_neg h]
theorem x_chgA (ct : z_Ct) : (z_chg ct 0 6).1 = ct ∧ (z_chg ct 2 1).1 = ct ∧ (z_lp ct 0).1 = ct := ⟨rfl, rfl, rfl⟩
theorem x_cdA {ct : z_Ct} (h : 1 ≤ ct.1.2.1) : (z_cd ct 0 21).1 = ct ∧ (z_cd ct 0 21).2 = -2 := by
  unfold z_cd
  rw [if_pos (by omega), if_neg (by omega)]
  exact ⟨rfl, rfl⟩
theorem zl_L_law_c9 : Cond.classLink RL 9 RX6 ∈ wsL_law := List.mem_append_left _ (List.mem_append_left _ (List.mem_append_left _ (List.mem_append_left _ (List.mem_append_left _ (List.mem_append_left _ (List.mem_append_left _ (List.mem_append_left _ (List.mem_append_left _ (List.mem_of_getElem? (i := 0) rfl)))))))))
theorem zl_L_law_iX6 : Cond.instantiable RX6 6 ∈ wsL_law := List.mem_append_left _ (List.mem_append_left _ (List.mem_append_left _ (List.mem_append_left _ (List.mem_append_left _ (List.mem_append_left _ (List.mem_append_left _ (List.mem_append_left _ (List.mem_append_left _ (List.mem_of_getElem? (i := 1) rfl)))))))))
theorem zl_L_law_l34 : Cond.methodLink RL 34 yX6_init ∈ wsL_law := List.mem_append_left _ (List.mem_append_left _ (List.mem_append_left _ (List.mem_append_left _ (List.mem_append_left _ (List.mem_append_left _ (List.mem_append_left _ (List.mem_append_left _ (List.mem_append_left _ (List.mem_of_getElem? (i := 3) rfl)))))))))
theorem zl_L_law_mX6 : Cond.instanceMethod yX6_init ∈ wsL_law := List.mem_append_left _ (List.mem_append_left _ (List.mem_append_left _ (List.mem_append_left _ (List.mem_append_left _ (List.mem_append_left _ (List.mem_append_left _ (List.mem_append_left _ (List.mem_append_left _ (List.mem_of_getElem? (i := 4) rfl)))))))))
theorem zl_L_law_nX6 : Cond.initialized RX6 ∈ wsL_law := List.mem_append_left _ (List.mem_append_left _ (List.mem_append_left _ (List.mem_append_left _ (List.mem_append_left _ (List.mem_append_left _ (List.mem_append_left _ (List.mem_append_left _ (List.mem_append_left _ (List.mem_of_getElem? (i := 2) rfl)))))))))
theorem zl_L_law_iX0 : Cond.instantiable RX0 8 ∈ wsL_law := List.mem_append_left _ (List.mem_append_left _ (List.mem_append_left _ (List.mem_append_left _ (List.mem_append_left _ (List.mem_append_left _ (List.mem_append_left _ (List.mem_append_left _ (List.mem_append_left _ (List.mem_of_getElem? (i := 10) rfl)))))))))
theorem zl_L_law_iX1 : Cond.instantiable RX1 3 ∈ wsL_law := List.mem_append_left _ (List.mem_append_left _ (List.mem_append_left _ (List.mem_append_left _ (List.mem_append_left _ (List.mem_append_left _ (List.mem_append_left _ (List.mem_append_left _ (List.mem_append_left _ (List.mem_of_getElem? (i := 14) rfl)))))))))
theorem zl_L_law_iX2 : Cond.instantiable RX2 2 ∈ wsL_law := List.mem_append_left _ (List.mem_append_left _ (List.mem_append_left _ (List.mem_append_left _ (List.mem_append_left _ (List.mem_append_left _ (List.mem_append_left _ (List.mem_append_left _ (List.mem_append_right _ (List.mem_append_left _ (List.mem_of_getElem? (i := 1) rfl))))))))))
theorem zl_L_law_iX3 : Cond.instantiable RX3 5 ∈ wsL_law := List.mem_append_left _ (List.mem_append_left _ (List.mem_append_left _ (List.mem_append_left _ (List.mem_append_left _ (List.mem_append_left _ (List.mem_append_left _ (List.mem_append_left _ (List.mem_append_right _ (List.mem_append_left _ (List.mem_of_getElem? (i := 10) rfl))))))))))
theorem zl_L_law_iX4 : Cond.instantiable RX4 5 ∈ wsL_law := List.mem_append_left _ (List.mem_append_left _ (List.mem_append_left _ (List.mem_append_left _ (List.mem_append_left _ (List.mem_append_left _ (List.mem_append_left _ (List.mem_append_left _ (List.mem_append_right _ (List.mem_append_left _ (List.mem_of_getElem? (i := 14) rfl))))))))))
theorem zl_L_law_iX5 : Cond.instantiable RX5 7 ∈ wsL_law := List.mem_append_left _ (List.mem_append_left _ (List.mem_append_left _ (List.mem_append_left _ (List.mem_append_left _ (List.mem_append_left _ (List.mem_append_left _ (List.mem_append_left _ (List.mem_append_left _ (List.mem_of_getElem? (i := 21) rfl)))))))))
theorem zl_L_law_aI : Cond.arrayClass .int ∈ wsL_law := List.mem_append_left _ (List.mem_append_left _ (List.mem_append_left _ (List.mem_append_left _ (List.mem_append_left _ (List.mem_append_left _ (List.mem_append_left _ (List.mem_append_left _ (List.mem_append_right _ (List.mem_append_right _ (List.mem_append_left _ (List.mem_of_getElem? (i := 1) rfl)))))))))))
theorem zl_L_law_aZ : Cond.arrayClass .boolean ∈ wsL_law := List.mem_append_left _ (List.mem_append_left _ (List.mem_append_left _ (List.mem_append_left _ (List.mem_append_left _ (List.mem_append_left _ (List.mem_append_left _ (List.mem_append_left _ (List.mem_append_left _ (List.mem_of_getElem? (i := 18) rfl)))))))))
theorem zl_N_0 : Cond.methodLinkNest RX6 11 yX0_init RX6 ∈ lw_tbl := List.mem_of_getElem? (i := 29) rfl
theorem zl_N_1 : Cond.methodLinkNest RX0 20 yX3_init RX6 ∈ lw_tbl := List.mem_of_getElem? (i := 78) rfl
theorem zl_N_2 : Cond.methodLinkNest RX0 27 yX4_init RX6 ∈ lw_tbl := List.mem_of_getElem? (i := 102) rfl
theorem zl_N_3 : Cond.methodLinkNest RX1 17 yX0_init RX6 ∈ lw_tbl := List.mem_of_getElem? (i := 161) rfl
theorem zl_N_4 : Cond.methodLinkNest RX6 40 yX2_init RX6 ∈ lw_tbl := List.mem_of_getElem? (i := 177) rfl
theorem zl_N_5 : Cond.arrayOver (.object RX0) ∈ lw_tbl := List.mem_of_getElem? (i := 160) rfl
set_option maxHeartbeats 4000000 in
set_option maxRecDepth 100000 in
theorem lw_C {p : Program} {s : State} {m : MethodId} {meth : Method} {c : Code} {b L : Nat} {xs : Nat → Int32} (C0 : lw_At p s m meth c b L xs) : z_NW s ∧ ∃ (D : va_G) (cI cZ cO : ClassId), z_C p s m #[Value.ref b] meth c D (z_T cI cZ cO) (fun q : Nat => s.heap.size ≤ q) cL_law 4 RL wsL_law ret := by
  obtain ⟨hx, hb, hr, hml, hown, hts, hX, hbl, hlocks, hgv⟩ := C0
  have hw : ∀ w ∈ wsL_law, w.before #[Value.ref b] s = true := fun w h => hts w (wsL_law_in w h)
  obtain ⟨c0, i0, hK0⟩ := u_known (C := RX0) (T := TX0) (N := 8) (n := 8) hw inlX0 (hw _ zl_L_law_iX0)
  obtain ⟨c1, i1, hK1⟩ := u_known (C := RX1) (T := TX1) (N := 3) (n := 3) hw inlX1 (hw _ zl_L_law_iX1)
  obtain ⟨c2, i2, hK2⟩ := u_known (C := RX2) (T := TX2) (N := 2) (n := 2) hw inlX2 (hw _ zl_L_law_iX2)
  obtain ⟨c3, i3, hK3⟩ := u_known (C := RX3) (T := TX3) (N := 5) (n := 5) hw inlX3 (hw _ zl_L_law_iX3)
  obtain ⟨c4, i4, hK4⟩ := u_known (C := RX4) (T := TX4) (N := 5) (n := 5) hw inlX4 (hw _ zl_L_law_iX4)
  obtain ⟨c5, i5, hK5⟩ := u_known (C := RX5) (T := TX5) (N := 7) (n := 7) hw inlX5 (hw _ zl_L_law_iX5)
  obtain ⟨c6, i6, hK6⟩ := u_known (C := RX6) (T := TX6) (N := 6) (n := 6) hw inlX6 (hw _ zl_L_law_iX6)
  obtain ⟨cI, kI, pI, f1, f2, f3⟩ := Cond.arrayClass_spec (hw _ zl_L_law_aI)
  obtain ⟨cZ, kZ, pZ, g1, g2, g3⟩ := Cond.arrayClass_spec (hw _ zl_L_law_aZ)
  obtain ⟨pO, cO, kO, h1, h2, h3, h4, h5⟩ := Cond.arrayOver_spec (hts _ zl_N_5)
  refine ⟨⟨va_Nw.of rfl (hts _ zl_N_0), va_Nw.of rfl (hts _ zl_N_1), va_Nw.of rfl (hts _ zl_N_2), va_Nw.of rfl (hts _ zl_N_3), va_Nw.of rfl (hts _ zl_N_4), va_AO.of (hts _ zl_N_5)⟩, (fun k => [c0, c1, c2, c3, c4, c5, c6].getD k 0, fun k => [i0, i1, i2, i3, i4, i5, i6].getD k (fun _ => 0)), cI, cZ, cO, hx, hb, hml, hown, hw, ⟨fun k q hq => ?_, fun k q hq => ?_⟩, hr, hlocks, fun q h => h⟩
  · match k, hq with
    | 0, hq => cases hq; exact hK0
    | 1, hq => cases hq; exact hK1
    | 2, hq => cases hq; exact hK2
    | 3, hq => cases hq; exact hK3
    | 4, hq => cases hq; exact hK4
    | 5, hq => cases hq; exact hK5
    | 6, hq => cases hq; exact hK6
    | k + 7, hq => exact absurd hq (by rw [List.getElem?_eq_none (by show 7 ≤ k + 7; omega)]; exact fun h => by cases h)
  · match k, hq with
    | 0, hq => cases hq; exact ⟨fun N z => ⟨fun k h => (by cases h), kI, f2, pI, f3⟩, f1⟩
    | 1, hq => cases hq; exact ⟨fun N z => ⟨fun k h => (by cases h), kZ, g2, pZ, g3⟩, g1⟩
    | 2, hq => cases hq; exact ⟨fun N z => ⟨fun k h => (by cases h), kO, h3, pO, h4⟩, kO, pO, h3, h4, h1, h5⟩
    | k + 3, hq => exact absurd hq (by rw [List.getElem?_eq_none (by show 3 ≤ k + 3; omega)]; exact fun h => by cases h)
