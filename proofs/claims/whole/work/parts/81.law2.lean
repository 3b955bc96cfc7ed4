theorem zl_L_c7 : Cond.classLink RL 7 RX6 ∈ wsL_law := List.mem_append_left _ (List.mem_append_left _ (List.mem_append_left _ (List.mem_append_left _ (List.mem_append_left _ (List.mem_append_left _ (List.mem_append_left _ (List.mem_append_left _ (List.mem_append_left _ (List.mem_append_left _ (List.mem_of_getElem? (i := 0) rfl))))))))))
theorem zl_L_iX6 : Cond.instantiable RX6 6 ∈ wsL_law := List.mem_append_left _ (List.mem_append_left _ (List.mem_append_left _ (List.mem_append_left _ (List.mem_append_left _ (List.mem_append_left _ (List.mem_append_left _ (List.mem_append_left _ (List.mem_append_left _ (List.mem_append_left _ (List.mem_of_getElem? (i := 1) rfl))))))))))
theorem zl_L_nX6 : Cond.initialized RX6 ∈ wsL_law := List.mem_append_left _ (List.mem_append_left _ (List.mem_append_left _ (List.mem_append_left _ (List.mem_append_left _ (List.mem_append_left _ (List.mem_append_left _ (List.mem_append_left _ (List.mem_append_left _ (List.mem_append_left _ (List.mem_of_getElem? (i := 2) rfl))))))))))
theorem zl_L_c10 : Cond.classLink RL 10 RX7 ∈ wsL_law := List.mem_append_left _ (List.mem_append_left _ (List.mem_append_left _ (List.mem_append_left _ (List.mem_append_left _ (List.mem_append_left _ (List.mem_append_left _ (List.mem_append_left _ (List.mem_append_left _ (List.mem_append_left _ (List.mem_of_getElem? (i := 3) rfl))))))))))
theorem zl_L_iX7 : Cond.instantiable RX7 7 ∈ wsL_law := List.mem_append_left _ (List.mem_append_left _ (List.mem_append_left _ (List.mem_append_left _ (List.mem_append_left _ (List.mem_append_left _ (List.mem_append_left _ (List.mem_append_left _ (List.mem_append_left _ (List.mem_append_left _ (List.mem_of_getElem? (i := 4) rfl))))))))))
theorem zl_L_nX7 : Cond.initialized RX7 ∈ wsL_law := List.mem_append_left _ (List.mem_append_left _ (List.mem_append_left _ (List.mem_append_left _ (List.mem_append_left _ (List.mem_append_left _ (List.mem_append_left _ (List.mem_append_left _ (List.mem_append_left _ (List.mem_append_left _ (List.mem_of_getElem? (i := 5) rfl))))))))))
theorem zl_L_l9 : Cond.methodLink RL 9 yX6_init ∈ wsL_law := List.mem_append_left _ (List.mem_append_left _ (List.mem_append_left _ (List.mem_append_left _ (List.mem_append_left _ (List.mem_append_left _ (List.mem_append_left _ (List.mem_append_left _ (List.mem_append_left _ (List.mem_append_left _ (List.mem_of_getElem? (i := 7) rfl))))))))))
theorem zl_L_mX6 : Cond.instanceMethod yX6_init ∈ wsL_law := List.mem_append_left _ (List.mem_append_left _ (List.mem_append_left _ (List.mem_append_left _ (List.mem_append_left _ (List.mem_append_left _ (List.mem_append_left _ (List.mem_append_left _ (List.mem_append_left _ (List.mem_append_left _ (List.mem_of_getElem? (i := 8) rfl))))))))))
theorem zl_L_l12 : Cond.methodLink RL 12 yX7_init ∈ wsL_law := List.mem_append_left _ (List.mem_append_left _ (List.mem_append_left _ (List.mem_append_left _ (List.mem_append_left _ (List.mem_append_left _ (List.mem_append_left _ (List.mem_append_left _ (List.mem_append_left _ (List.mem_append_right _ (List.mem_append_right _ (List.mem_append_right _ (List.mem_append_left _ (List.mem_of_getElem? (i := 14) rfl)))))))))))))
theorem zl_L_mX7 : Cond.instanceMethod yX7_init ∈ wsL_law := List.mem_append_left _ (List.mem_append_left _ (List.mem_append_left _ (List.mem_append_left _ (List.mem_append_left _ (List.mem_append_left _ (List.mem_append_left _ (List.mem_append_left _ (List.mem_append_left _ (List.mem_append_right _ (List.mem_append_right _ (List.mem_append_right _ (List.mem_append_left _ (List.mem_of_getElem? (i := 15) rfl)))))))))))))
theorem zl_L_iX0 : Cond.instantiable RX0 8 ∈ wsL_law := List.mem_append_left _ (List.mem_append_left _ (List.mem_append_left _ (List.mem_append_left _ (List.mem_append_left _ (List.mem_append_left _ (List.mem_append_left _ (List.mem_append_left _ (List.mem_append_left _ (List.mem_append_left _ (List.mem_of_getElem? (i := 14) rfl))))))))))
theorem zl_L_iX1 : Cond.instantiable RX1 3 ∈ wsL_law := List.mem_append_left _ (List.mem_append_left _ (List.mem_append_left _ (List.mem_append_left _ (List.mem_append_left _ (List.mem_append_left _ (List.mem_append_left _ (List.mem_append_left _ (List.mem_append_left _ (List.mem_append_left _ (List.mem_of_getElem? (i := 18) rfl))))))))))
theorem zl_L_iX2 : Cond.instantiable RX2 2 ∈ wsL_law := List.mem_append_left _ (List.mem_append_left _ (List.mem_append_left _ (List.mem_append_left _ (List.mem_append_left _ (List.mem_append_left _ (List.mem_append_left _ (List.mem_append_left _ (List.mem_append_left _ (List.mem_append_right _ (List.mem_append_left _ (List.mem_of_getElem? (i := 5) rfl)))))))))))
theorem zl_L_iX3 : Cond.instantiable RX3 5 ∈ wsL_law := List.mem_append_left _ (List.mem_append_left _ (List.mem_append_left _ (List.mem_append_left _ (List.mem_append_left _ (List.mem_append_left _ (List.mem_append_left _ (List.mem_append_left _ (List.mem_append_left _ (List.mem_append_right _ (List.mem_append_left _ (List.mem_of_getElem? (i := 14) rfl)))))))))))
theorem zl_L_iX4 : Cond.instantiable RX4 5 ∈ wsL_law := List.mem_append_left _ (List.mem_append_left _ (List.mem_append_left _ (List.mem_append_left _ (List.mem_append_left _ (List.mem_append_left _ (List.mem_append_left _ (List.mem_append_left _ (List.mem_append_left _ (List.mem_append_right _ (List.mem_append_left _ (List.mem_of_getElem? (i := 18) rfl)))))))))))
theorem zl_L_iX5 : Cond.instantiable RX5 7 ∈ wsL_law := List.mem_append_left _ (List.mem_append_left _ (List.mem_append_left _ (List.mem_append_left _ (List.mem_append_left _ (List.mem_append_left _ (List.mem_append_left _ (List.mem_append_left _ (List.mem_append_left _ (List.mem_append_right _ (List.mem_append_left _ (List.mem_of_getElem? (i := 1) rfl)))))))))))
theorem zl_L_aI : Cond.arrayClass .int ∈ wsL_law := List.mem_append_left _ (List.mem_append_left _ (List.mem_append_left _ (List.mem_append_left _ (List.mem_append_left _ (List.mem_append_left _ (List.mem_append_left _ (List.mem_append_left _ (List.mem_append_left _ (List.mem_append_right _ (List.mem_append_right _ (List.mem_append_left _ (List.mem_of_getElem? (i := 5) rfl))))))))))))
theorem zl_L_aZ : Cond.arrayClass .boolean ∈ wsL_law := List.mem_append_left _ (List.mem_append_left _ (List.mem_append_left _ (List.mem_append_left _ (List.mem_append_left _ (List.mem_append_left _ (List.mem_append_left _ (List.mem_append_left _ (List.mem_append_left _ (List.mem_append_left _ (List.mem_of_getElem? (i := 22) rfl))))))))))
theorem zl_N_0 : Cond.methodLinkNest RX6 11 yX0_init RX6 ∈ lw_tbl := List.mem_of_getElem? (i := 64) rfl
theorem zl_N_1 : Cond.methodLinkNest RX0 20 yX3_init RX6 ∈ lw_tbl := List.mem_of_getElem? (i := 113) rfl
theorem zl_N_2 : Cond.methodLinkNest RX0 27 yX4_init RX6 ∈ lw_tbl := List.mem_of_getElem? (i := 137) rfl
theorem zl_N_3 : Cond.methodLinkNest RX1 17 yX0_init RX6 ∈ lw_tbl := List.mem_of_getElem? (i := 196) rfl
theorem zl_N_4 : Cond.methodLinkNest RX6 40 yX2_init RX6 ∈ lw_tbl := List.mem_of_getElem? (i := 212) rfl
theorem zl_N_5 : Cond.arrayOver (.object RX0) ∈ lw_tbl := List.mem_of_getElem? (i := 195) rfl
theorem z_ok_ct0 : z_ok z_ct0 := by
  refine ⟨⟨by decide, ⟨by decide, by decide⟩, ⟨by decide, by decide⟩, fun i _ _ => ⟨by show (1 : Int) ≤ 3; decide, by show (3 : Int) ≤ 20; decide⟩, fun i _ _ => by show (0 : Int) ≤ 0; decide, fun i _ _ => by show (0 : Int) ≤ 0; decide, by decide +kernel, fun k _ _ => ?_, fun k _ _ => ?_, fun k i _ _ _ _ => rfl, by decide +kernel⟩, ⟨⟨by decide, by decide⟩, fun i i1 i2 => absurd (show i < 0 from i2) (by omega), fun i _ _ => Or.inl rfl⟩, ⟨⟨by decide, by decide⟩, fun i i1 i2 => absurd (show i < 0 from i2) (by omega), fun v _ _ => ⟨⟨by show (0 : Int) ≤ 0; decide, by show (0 : Int) ≤ 0; decide⟩, by show (0 : Int) ≤ 0; decide, by show (0 : Int) ≤ 0; decide⟩, by decide +kernel, fun i j i1 i2 i3 => absurd (show j < 0 from i3) (by omega), fun v _ _ hv => absurd (show (0 : Int) < 0 from hv) (by decide)⟩, ⟨by decide, by decide⟩, ⟨by decide, by decide⟩, ⟨by decide, by decide⟩, ⟨by decide, by decide⟩, Or.inl rfl, by decide⟩
  · show (0 : Int) + z_S (fun _ => 0) ((k + 1) * 21) 21 = 0 / 2
    rw [z_S_zero 21 (fun i _ _ => rfl)]
    decide
  · show z_bit 0 k = 0 % 2
    rw [z_bit0]
    decide
theorem lw_inv_0 {u : Int → Int} (h : z_rel z_ct0 0 u) : lw_inv z_ct0 0 0 (fun _ => z_ct0) (fun _ => z_ct0) (fun _ => 0) 0 (fun _ => 0) 0 u (fun _ => 0) (fun _ => 0) (fun _ => 0) (fun _ => 0) :=
  ⟨⟨z_ok_ct0, by decide⟩, ⟨by omega, by omega⟩, ⟨by omega, by omega⟩, fun _ _ _ => ⟨z_ok_ct0, by show z_ct0.1.1 ≤ 9999; decide⟩, fun _ _ _ => ⟨z_ok_ct0, by show z_ct0.1.1 ≤ 9999; decide⟩, ⟨by omega, by omega⟩, fun i i1 i2 => absurd i2 (by omega), h, ⟨rfl, fun j j1 j2 => absurd j2 (by omega)⟩, fun s _ _ => ⟨rfl, Or.inl rfl, fun z => absurd rfl z⟩, fun i i1 i2 => absurd i2 (by omega)⟩
set_option maxHeartbeats 4000000 in
set_option maxRecDepth 100000 in
theorem lw_C {p : Program} {s : State} {m : MethodId} {meth : Method} {c : Code} {b L : Nat} {xs : Nat → Int32} (C0 : lw_At p s m meth c b L xs) : z_NW s ∧ ∃ (D : va_G) (cI cZ cO : ClassId), z_C p s m #[Value.ref b] meth c D (z_T cI cZ cO) (fun q : Nat => s.heap.size ≤ q) cL_law 4 RL wsL_law ret := by
  obtain ⟨hx, hb, hr, hml, hown, hts, hX, hbl, hlocks, hgv⟩ := C0
  have hw : ∀ w ∈ wsL_law, w.before #[Value.ref b] s = true := fun w h => hts w (wsL_law_in w h)
  obtain ⟨c0, i0, hK0⟩ := u_known (C := RX0) (T := TX0) (N := 8) (n := 8) hw inlX0 (hw _ zl_L_iX0)
  obtain ⟨c1, i1, hK1⟩ := u_known (C := RX1) (T := TX1) (N := 3) (n := 3) hw inlX1 (hw _ zl_L_iX1)
  obtain ⟨c2, i2, hK2⟩ := u_known (C := RX2) (T := TX2) (N := 2) (n := 2) hw inlX2 (hw _ zl_L_iX2)
  obtain ⟨c3, i3, hK3⟩ := u_known (C := RX3) (T := TX3) (N := 5) (n := 5) hw inlX3 (hw _ zl_L_iX3)
  obtain ⟨c4, i4, hK4⟩ := u_known (C := RX4) (T := TX4) (N := 5) (n := 5) hw inlX4 (hw _ zl_L_iX4)
  obtain ⟨c5, i5, hK5⟩ := u_known (C := RX5) (T := TX5) (N := 7) (n := 7) hw inlX5 (hw _ zl_L_iX5)
  obtain ⟨c6, i6, hK6⟩ := u_known (C := RX6) (T := TX6) (N := 6) (n := 6) hw inlX6 (hw _ zl_L_iX6)
  obtain ⟨c7, i7, hK7⟩ := u_known (C := RX7) (T := TX7) (N := 7) (n := 7) hw inlX7 (hw _ zl_L_iX7)
  obtain ⟨cI, kI, pI, f1, f2, f3⟩ := Cond.arrayClass_spec (hw _ zl_L_aI)
  obtain ⟨cZ, kZ, pZ, g1, g2, g3⟩ := Cond.arrayClass_spec (hw _ zl_L_aZ)
  obtain ⟨pO, cO, kO, h1, h2, h3, h4, h5⟩ := Cond.arrayOver_spec (hts _ zl_N_5)
  refine ⟨⟨va_Nw.of rfl (hts _ zl_N_0), va_Nw.of rfl (hts _ zl_N_1), va_Nw.of rfl (hts _ zl_N_2), va_Nw.of rfl (hts _ zl_N_3), va_Nw.of rfl (hts _ zl_N_4), va_AO.of (hts _ zl_N_5)⟩, (fun k => [c0, c1, c2, c3, c4, c5, c6, c7].getD k 0, fun k => [i0, i1, i2, i3, i4, i5, i6, i7].getD k (fun _ => 0)), cI, cZ, cO, hx, hb, hml, hown, hw, ⟨fun k q hq => ?_, fun k q hq => ?_⟩, hr, hlocks, fun q h => h⟩
  · match k, hq with
    | 0, hq => cases hq; exact hK0
    | 1, hq => cases hq; exact hK1
    | 2, hq => cases hq; exact hK2
    | 3, hq => cases hq; exact hK3
    | 4, hq => cases hq; exact hK4
    | 5, hq => cases hq; exact hK5
    | 6, hq => cases hq; exact hK6
    | 7, hq => cases hq; exact hK7
    | k + 8, hq => exact absurd hq (by rw [List.getElem?_eq_none (by show 8 ≤ k + 8; omega)]; exact fun h => by cases h)
  · match k, hq with
    | 0, hq => cases hq; exact ⟨fun N z => ⟨fun k h => (by cases h), kI, f2, pI, f3⟩, f1⟩
    | 1, hq => cases hq; exact ⟨fun N z => ⟨fun k h => (by cases h), kZ, g2, pZ, g3⟩, g1⟩
    | 2, hq => cases hq; exact ⟨fun N z => ⟨fun k h => (by cases h), kO, h3, pO, h4⟩, kO, pO, h3, h4, h1, h5⟩
    | k + 3, hq => exact absurd hq (by rw [List.getElem?_eq_none (by show 3 ≤ k + 3; omega)]; exact fun h => by cases h)
