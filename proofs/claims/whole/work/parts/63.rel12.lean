/-! ===== characters, as the reference puts them ===== -/
def z_pi (u k mm e r : Int) : Prop := (r = 1 ∧ e = 0 ∧ mm = k ∧ z_ch u 0 8 = z_ch (u / z_p2 (8 * k)) k (8 - k).toNat) ∨ (r = 1 ∧ e = 1 ∧ (0 ≤ mm ∧ mm ≤ k) ∧ z_ch u 0 8 = if u / z_p2 (8 * k) = 0 then (if mm = 0 then -2 else mm) else -2) ∨ (r = 0 ∧ (e = 0 ∨ e = 1) ∧ (0 ≤ mm ∧ mm ≤ k) ∧ z_ch u 0 8 = -2)
theorem z_pi_rng {u k mm e r : Int} (hk : 0 ≤ k) (h : z_pi u k mm e r) : (e = 0 ∨ e = 1) ∧ (r = 0 ∨ r = 1) ∧ 0 ≤ mm ∧ mm ≤ k := by
  rcases h with h | h | h
  · omega
  · exact ⟨Or.inr h.2.1, Or.inr h.1, h.2.2.1⟩
  · exact ⟨h.2.1, Or.inl h.1, h.2.2.1⟩
theorem z_p2_8 {k : Int} (hk : 0 ≤ k) (u : Int) : u / z_p2 (8 * (k + 1)) = u / z_p2 (8 * k) / 256 := by
  obtain ⟨n, rfl⟩ := Int.eq_ofNat_of_zero_le hk
  have h1 : z_p2 (8 * ((n : Int) + 1)) = z_p2 (8 * (n : Int)) * 256 := by
    unfold z_p2
    rw [show (8 * ((n : Int) + 1)).toNat = (8 * (n : Int)).toNat + 8 by omega, Int.pow_add]
    rfl
  have h2 := z_p2_pos (8 * (n : Int))
  rw [h1, Int.ediv_ediv, if_neg (fun z => by omega), Int.sub_zero]
theorem z_pi_s {u k mm e r cd e' r' mm' : Int} (hu : 0 ≤ u) (hk : 0 ≤ k ∧ k < 8) (hcd : u / z_p2 (8 * k) % 256 = cd) (h : z_pi u k mm e r) (he : e' = if ¬ e = 0 ∨ cd = 0 then 1 else 0) (hr : r' = if ¬ r = 0 ∧ ((¬ e' = 0 ∧ cd = 0) ∨ (e' = 0 ∧ 33 ≤ cd ∧ cd ≤ 126)) then 1 else 0) (hm : mm' = mm + (if e' = 0 then 1 else 0)) : z_pi u (k + 1) mm' e' r' := by
  have hw : 0 ≤ u / z_p2 (8 * k) := Int.ediv_nonneg hu (Int.le_of_lt (z_p2_pos _))
  unfold z_pi at *
  rw [z_p2_8 hk.1]
  generalize u / z_p2 (8 * k) = w at *
  rcases h with ⟨h1, h2, h3, h4⟩ | ⟨h1, h2, h3, h4⟩ | ⟨h1, h2, h3, h4⟩
  · by_cases q : cd = 0
    · rw [if_pos (Or.inr q)] at he
      rw [if_pos ⟨by omega, Or.inl ⟨by omega, q⟩⟩] at hr
      rw [if_neg (by omega)] at hm
      refine Or.inr (Or.inl ⟨hr, he, by omega, ?_⟩)
      by_cases q2 : w = 0
      · rw [h4, z_ch_0 (Or.inl q2), if_pos (show w / 256 = 0 by omega), hm, Int.add_zero, h3]
      · rw [h4, z_ch_b (m := (8 - (k + 1)).toNat) (by omega) q2 (by omega), if_neg (by omega)]
    · rw [if_neg (by omega)] at he
      rw [if_pos (by omega)] at hm
      by_cases q2 : 33 ≤ cd ∧ cd ≤ 126
      · rw [if_pos ⟨by omega, Or.inr ⟨he, q2⟩⟩] at hr
        refine Or.inl ⟨hr, he, by omega, ?_⟩
        rw [h4, z_ch_s (m := (8 - (k + 1)).toNat) (by omega) (by omega) (by omega)]
      · rw [if_neg (by omega)] at hr
        refine Or.inr (Or.inr ⟨hr, Or.inl he, by omega, ?_⟩)
        rw [h4, z_ch_b (m := (8 - (k + 1)).toNat) (by omega) (by omega) (by omega)]
  · rw [if_pos (by omega)] at he
    rw [if_neg (by omega)] at hm
    by_cases q : cd = 0
    · rw [if_pos ⟨by omega, Or.inl ⟨by omega, q⟩⟩] at hr
      refine Or.inr (Or.inl ⟨hr, he, by omega, ?_⟩)
      by_cases q2 : w = 0
      · rw [h4, if_pos q2, if_pos (show w / 256 = 0 by omega), hm, Int.add_zero]
      · rw [h4, if_neg q2, if_neg (by omega)]
    · rw [if_neg (by omega)] at hr
      refine Or.inr (Or.inr ⟨hr, Or.inr he, by omega, ?_⟩)
      rw [h4, if_neg (by omega)]
  · rw [if_neg (by omega)] at hr
    refine Or.inr (Or.inr ⟨hr, ?_, ?_, h4⟩)
    · rw [he]; split <;> omega
    · rw [hm]; split <;> omega
theorem z_pi_0 (u : Int) : z_pi u 0 0 0 1 := by
  refine Or.inl ⟨rfl, rfl, rfl, ?_⟩
  show z_ch u 0 8 = z_ch (u / z_p2 0) 0 8
  rw [show z_p2 0 = 1 from rfl, Int.ediv_one]
theorem z_pi_f {u mm e r : Int} (hu : 0 ≤ u ∧ u < 18446744073709551616) (h : z_pi u 8 mm e r) : ((r = 0 ∨ mm = 0) → z_ch u 0 8 = -2) ∧ (¬ (r = 0 ∨ mm = 0) → z_ch u 0 8 = mm) := by
  have hw : u / z_p2 (8 * 8) = 0 := Int.ediv_eq_zero_of_lt hu.1 hu.2
  unfold z_pi at h
  rw [hw] at h
  rcases h with ⟨h1, h2, h3, h4⟩ | ⟨h1, h2, h3, h4⟩ | ⟨h1, h2, h3, h4⟩
  · rw [z_ch_0 (Or.inl rfl), if_neg (by omega)] at h4
    omega
  · rw [if_pos rfl] at h4
    by_cases q : mm = 0
    · rw [if_pos q] at h4; omega
    · rw [if_neg q] at h4; omega
  · omega
