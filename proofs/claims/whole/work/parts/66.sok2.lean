theorem y_rok_t {rd : z_Rd} {t t' : Int} (h : z_rok rd t) (ht : t ≤ t') : z_rok rd t' := ⟨h.1, fun i i1 i2 => by have := h.2.1 i i1 i2; omega, h.2.2⟩
theorem y_sok_t {sg : z_Sg} {t t' : Int} (h : z_sok sg t) (ht : t ≤ t') : z_sok sg t' := ⟨h.1, h.2.1, fun v v1 v2 => by have := h.2.2.1 v v1 v2; omega, h.2.2.2⟩
theorem y_rok_add {rd : z_Rd} {t nb tm cn lt : Int} (h : z_rok rd t) (hr : rd.1 < 99) (hnb : 0 ≤ nb ∧ nb < 32) (hcn : 0 ≤ cn ∧ cn < 32) (htm : 0 ≤ tm ∧ tm ≤ t) (hlt : lt = 0 ∨ lt = 1) : z_rok (z_rad rd nb tm cn lt) t := by
  obtain ⟨h1, h2, h3⟩ := h
  refine ⟨⟨by show 0 ≤ rd.1 + 1; omega, by show rd.1 + 1 ≤ 99; omega⟩, fun i i1 i2 => ?_, fun i i1 i2 => ?_⟩
  · have i2' : i < rd.1 + 1 := i2
    show (0 ≤ z_u rd.2.1 rd.1 nb i ∧ z_u rd.2.1 rd.1 nb i < 32) ∧ (0 ≤ z_u rd.2.2.2.1 rd.1 cn i ∧ z_u rd.2.2.2.1 rd.1 cn i < 32) ∧ (0 ≤ z_u rd.2.2.1 rd.1 tm i ∧ z_u rd.2.2.1 rd.1 tm i ≤ t)
    by_cases q : i = rd.1
    · rw [q, z_u_same, z_u_same, z_u_same]; exact ⟨hnb, hcn, htm⟩
    · rw [z_u_ne q, z_u_ne q, z_u_ne q]; exact h2 i i1 (by omega)
  · show z_u rd.2.2.2.2 rd.1 lt i = 0 ∨ z_u rd.2.2.2.2 rd.1 lt i = 1
    by_cases q : i = rd.1
    · rw [q, z_u_same]; exact hlt
    · rw [z_u_ne q]; exact h3 i i1 i2
theorem y_sok_add {sg : z_Sg} {t nb tm fb : Int} (h : z_sok sg t) (hnb : 0 ≤ nb ∧ nb < 32) : z_sok (z_sad sg nb tm fb) (t + 1) := by
  have hnew := y_sok_new h nb hnb.1 hnb.2
  obtain ⟨h1, h2, h3, h4, h5, h6⟩ := h
  have hfo : ∀ v : Int, 0 ≤ v → v < 32 → (0 ≤ z_u sg.2.2.1 nb (sg.2.2.1 nb + 1) v ∧ z_u sg.2.2.1 nb (sg.2.2.1 nb + 1) v ≤ t + 1) ∧ sg.2.2.1 v ≤ z_u sg.2.2.1 nb (sg.2.2.1 nb + 1) v := by
    intro v v1 v2
    have := h3 v v1 v2
    by_cases q : v = nb
    · rw [q, z_u_same]; rw [q] at this; omega
    · rw [z_u_ne q]; omega
  have h3n := h3 nb hnb.1 hnb.2
  have hsum : z_S (fun v => if 0 < z_u sg.2.2.1 nb (sg.2.2.1 nb + 1) v then (1 : Int) else 0) 0 32 = if sg.2.2.1 nb = 0 then sg.1 + 1 else sg.1 := by
    have e : z_S (fun v => if 0 < z_u sg.2.2.1 nb (sg.2.2.1 nb + 1) v then (1 : Int) else 0) 0 32 = z_S (z_u (fun v => if 0 < sg.2.2.1 v then (1 : Int) else 0) nb 1) 0 32 := z_S_congr 32 (fun i i1 i2 => by
      show (if 0 < z_u sg.2.2.1 nb (sg.2.2.1 nb + 1) (0 + i) then (1 : Int) else 0) = z_u (fun v => if 0 < sg.2.2.1 v then (1 : Int) else 0) nb 1 (0 + i)
      by_cases q : 0 + i = nb
      · rw [q, z_u_same, z_u_same, if_pos (by omega)]
      · rw [z_u_ne q, z_u_ne q])
    rw [e, z_S_u, if_pos (by omega), ← h4]
    show sg.1 + (1 - (if 0 < sg.2.2.1 nb then (1 : Int) else 0)) = _
    by_cases q : sg.2.2.1 nb = 0
    · rw [if_pos q, if_neg (by omega)]; omega
    · rw [if_neg q, if_pos (by omega)]; omega
  by_cases q : sg.2.2.1 nb = 0
  · have hlt := hnew q
    have hno : ∀ i : Int, 0 ≤ i → i < sg.1 → ¬ sg.2.1 i = nb := fun i i1 i2 z => by
      have := (h2 i i1 i2).2
      rw [z] at this; omega
    unfold z_sad
    refine ⟨?_, ?_, ?_, ?_, ?_, ?_⟩
    · dsimp only; rw [if_pos q]; omega
    · intro i i1 i2
      dsimp only at i2 ⊢
      rw [if_pos q] at i2 ⊢
      by_cases c : i = sg.1
      · rw [c, z_u_same, z_u_same]; exact ⟨hnb, by omega⟩
      · rw [z_u_ne c]
        have h9 := h2 i i1 (by omega)
        have h8 := hfo _ h9.1.1 h9.1.2
        exact ⟨h9.1, by omega⟩
    · intro v v1 v2
      dsimp only
      have h8 := hfo v v1 v2
      have h9 := h3 v v1 v2
      refine ⟨h8.1, ?_⟩
      by_cases c : fb = 0
      · rw [if_pos c]; omega
      · rw [if_neg c]
        by_cases c2 : v = nb
        · rw [c2, z_u_same, z_u_same]; omega
        · rw [z_u_ne c2, z_u_ne c2]; exact h9.2
    · dsimp only; exact hsum.symm
    · intro i j i1 i2 i3
      dsimp only at i3 ⊢
      rw [if_pos q] at i3 ⊢
      rw [z_u_ne (show ¬ i = sg.1 by omega)]
      by_cases c : j = sg.1
      · rw [c, z_u_same]; exact hno i i1 (by omega)
      · rw [z_u_ne c]; exact h5 i j i1 i2 (by omega)
    · intro v v1 v2 v3
      dsimp only at v3 ⊢
      rw [if_pos q, if_pos q]
      by_cases c : v = nb
      · exact ⟨sg.1, by omega, by omega, by rw [z_u_same, c]⟩
      · rw [z_u_ne c] at v3
        obtain ⟨i, i1, i2, i3⟩ := h6 v v1 v2 v3
        exact ⟨i, i1, by omega, by rw [z_u_ne (by omega)]; exact i3⟩
  · unfold z_sad
    refine ⟨?_, ?_, ?_, ?_, ?_, ?_⟩
    · dsimp only; rw [if_neg q]; omega
    · intro i i1 i2
      dsimp only at i2 ⊢
      rw [if_neg q] at i2 ⊢
      have h9 := h2 i i1 i2
      have h8 := hfo _ h9.1.1 h9.1.2
      exact ⟨h9.1, by omega⟩
    · intro v v1 v2
      dsimp only
      have h8 := hfo v v1 v2
      have h9 := h3 v v1 v2
      refine ⟨h8.1, ?_⟩
      by_cases c : fb = 0
      · rw [if_pos c]; omega
      · rw [if_neg c]
        by_cases c2 : v = nb
        · rw [c2, z_u_same, z_u_same]; omega
        · rw [z_u_ne c2, z_u_ne c2]; exact h9.2
    · dsimp only; exact hsum.symm
    · intro i j i1 i2 i3
      dsimp only at i3 ⊢
      rw [if_neg q] at i3 ⊢
      exact h5 i j i1 i2 i3
    · intro v v1 v2 v3
      dsimp only at v3 ⊢
      rw [if_neg q, if_neg q]
      by_cases c : v = nb
      · exact h6 v v1 v2 (by rw [c]; omega)
      · rw [z_u_ne c] at v3
        exact h6 v v1 v2 v3
theorem y_ok_nano {ct : z_Ct} (h : z_ok ct) : z_ok (z_nano ct) := by
  obtain ⟨hw, hrd, hsg, hho, hck, hlc, hld, hlw, hrl⟩ := h
  have hst := hw.2.1
  have hI := y_td_I hw ct.1.2.1.toNat (by omega)
  have hT := hI.2
  have hacc := hI.1
  have ht0 := hw.1
  have hp := z_p2_le (k := ct.1.2.1) (by omega)
  have hsh : 0 ≤ (z_tdR ct).2.1 ∧ (z_tdR ct).2.1 < z_p2 ct.1.2.1 := hT.2.2.1
  unfold z_nano z_nanoR
  refine ⟨⟨?_, hT.2⟩, ?_, ?_, hho, hck, ?_, ?_, ?_, ?_⟩
  · show 0 ≤ ct.1.1 + 1; omega
  · dsimp only
    split
    · rename_i c
      have c1 := c.1
      exact y_rok_add (y_rok_t hrd (by omega)) (by omega) (by omega) (by omega) (by omega) (Or.inr rfl)
    · exact y_rok_t hrd (by omega)
  · show z_sok (z_nsg ct (z_tdR ct)) (ct.1.1 + 1)
    unfold z_nsg
    split
    · exact y_sok_add hsg (by omega)
    · exact y_sok_t hsg (by omega)
  · dsimp only; omega
  · show -1 ≤ z_nld ct (z_tdR ct) ∧ z_nld ct (z_tdR ct) ≤ ct.1.1 + 1 - 1
    unfold z_nld
    split <;> omega
  · dsimp only
    split
    · exact Or.inl rfl
    · exact hlw
  · dsimp only
    split
    · rename_i c
      have c1 := c.1
      show ct.2.1.1 + 1 + 0 ≤ 99
      omega
    · exact hrl
theorem y_ok_take {ct : z_Ct} (h : z_ok ct) (h1 : ¬ ct.2.2.2.2.2.1 = ct.1.1) : z_ok (z_take ct) := by
  obtain ⟨hw, hrd, hsg, hho, hck, hlc, hld, hlw, hrl⟩ := h
  obtain ⟨ht0, hst, hsh, hdl, hdu, hdn, hB, htot, hbit, hzero, how⟩ := hw
  have hp := z_p2_le (k := ct.1.2.1) (by omega)
  have hd0 := hdl 0 (by omega) (by omega)
  unfold z_take z_bg
  generalize hb : 0 * 21 + (ct.1.1 + ct.1.2.2.2.2.1 0) % 21 = b
  have hbr : 0 ≤ b ∧ b < 21 := by omega
  have hdb := hdu b (by omega) (by omega)
  refine ⟨⟨ht0, hst, hsh, hdl, ?_, hdn, ?_, ?_, hbit, ?_, ?_⟩, hrd, hsg, hho, ?_, ?_, hld, hlw, hrl⟩
  · intro i i1 i2
    show 0 ≤ z_u ct.1.2.2.2.2.2.2 b (ct.1.2.2.2.2.2.2 b + 1) i
    by_cases c : i = b
    · rw [c, z_u_same]; omega
    · rw [z_u_ne c]; exact hdu i i1 i2
  · show ct.1.2.2.2.2.2.1 0 + z_S (z_u ct.1.2.2.2.2.2.2 b (ct.1.2.2.2.2.2.2 b + 1)) 0 21 ≤ ct.1.1 + 1
    rw [z_S_u, if_pos (by omega)]; omega
  · intro j j1 j2
    show ct.1.2.2.2.2.2.1 (j + 1) + z_S (z_u ct.1.2.2.2.2.2.2 b (ct.1.2.2.2.2.2.2 b + 1)) ((j + 1) * 21) 21 = ct.1.2.2.2.2.2.1 j / 2
    rw [z_S_u, if_neg (by omega)]; exact htot j j1 j2
  · intro j i j1 j2 i1 i2
    have j1' : ct.1.2.1 ≤ j := j1
    show z_u ct.1.2.2.2.2.2.2 b (ct.1.2.2.2.2.2.2 b + 1) (j * 21 + i) = 0
    rw [z_u_ne (by omega)]; exact hzero j i j1 j2 i1 i2
  · show ct.1.2.2.2.1 + 1 = z_S (z_u ct.1.2.2.2.2.2.2 b (ct.1.2.2.2.2.2.2 b + 1)) 0 105
    rw [z_S_u, if_pos (by omega)]; omega
  · show 0 ≤ (ct.2.2.2.2.1 + 1) % z_p2 ct.1.2.1 ∧ (ct.2.2.2.2.1 + 1) % z_p2 ct.1.2.1 < z_p2 ct.1.2.1
    exact ⟨Int.emod_nonneg _ (by omega), Int.emod_lt_of_pos _ (by omega)⟩
  · show -1 ≤ ct.1.1 ∧ ct.1.1 ≤ ct.1.1; omega
theorem y_ok_anew {ct : z_Ct} (h : z_ok ct) {k : Int} (hk : 1 ≤ k ∧ k ≤ 5) : z_ok (z_anew ct k) := by
  obtain ⟨hw, hrd, hsg, hho, hck, hlc, hld, hlw, hrl⟩ := h
  have ht0 := hw.1
  have hp := z_p2_le (k := k) (by omega)
  have hz : ∀ (a : Int) (n : Nat), z_S (fun _ => (0 : Int)) a n = 0 := fun a n => z_S_zero n (fun _ _ _ => rfl)
  unfold z_anew
  refine ⟨⟨ht0, hk, ⟨by dsimp only; omega, by dsimp only; omega⟩, hw.2.2.2.1, fun i i1 i2 => Int.le_refl _, fun i i1 i2 => Int.le_refl _, ?_, ?_, ?_, fun _ _ _ _ _ _ => rfl, ?_⟩, ⟨by dsimp only; omega, fun i i1 i2 => by dsimp only at i2; omega, hrd.2.2⟩, ⟨by dsimp only; omega, fun i i1 i2 => by dsimp only at i2; omega, fun v v1 v2 => by dsimp only; omega, ?_, fun i j i1 i2 i3 => by dsimp only at i3; omega, fun v v1 v2 v3 => by dsimp only at v3; omega⟩, hho, ?_, ?_, ?_, Or.inl rfl, ?_⟩
  · show (0 : Int) + z_S (fun _ => (0 : Int)) 0 21 ≤ -1 + 1
    rw [hz]; omega
  · intro j j1 j2
    show (0 : Int) + z_S (fun _ => (0 : Int)) ((j + 1) * 21) 21 = 0 / 2
    rw [hz]; omega
  · intro j j1 j2
    show z_bit 0 j = 0 % 2
    rw [z_bit0]; rfl
  · show (0 : Int) = z_S (fun _ => (0 : Int)) 0 105
    rw [hz]
  · show (0 : Int) = z_S (fun v => if (0 : Int) < 0 then (1 : Int) else 0) 0 32
    exact (z_S_zero 32 (fun i i1 i2 => rfl)).symm
  · dsimp only; omega
  · dsimp only; omega
  · dsimp only; omega
  · dsimp only; omega
