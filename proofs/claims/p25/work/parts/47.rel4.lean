/-! ===== a nanosecond of the reference: what its walk needs beside ===== -/
theorem z_tdS_acc {t st : Int} {dl : Int → Int} {k : Int} {r : z_R} (h : 0 ≤ r.2.2.2.2 (k * 21 + t % 21)) : (z_tdS t st dl k r).1 = r.1 + r.2.2.2.2 (k * 21 + t % 21) := by
  by_cases q : 0 < r.2.2.2.2 (k * 21 + t % 21)
  · by_cases q2 : k + 1 < st
    · rw [z_tdS_1 q q2]
    · rw [z_tdS_2 q q2]
  · rw [z_tdS_3 q]
    omega
theorem z_dn_fr {b k : Int} {f : Int → Int} (hk : 0 ≤ k ∧ k < 5) (hst : f b ≤ 5) (hd : 0 ≤ f (b + 9 + (k + 1)) ∧ f (b + 9 + (k + 1)) ≤ 20) : z_fr b f (z_dn b k f) := by
  intro j hj
  by_cases q : f (b + 14 + k) = 1 ∧ k + 1 < f b
  · have e9 : z_dn0 b k f (b + 9 + (k + 1)) = f (b + 9 + (k + 1)) := by
      unfold z_dn0
      rw [z_u_ne (by omega), z_u_ne (by omega)]
    rw [show z_dn b k f = z_tn b (k + 1) (z_dn0 b k f) from if_pos q]
    unfold z_tn
    rw [e9, z_u_ne (by omega)]
    unfold z_dn0
    rw [z_u_ne (by omega), z_u_ne (by omega)]
  · rw [show z_dn b k f = z_dn0 b k f from if_neg q]
    unfold z_dn0
    rw [z_u_ne (by omega), z_u_ne (by omega)]
theorem z_nsg_sn {ct : z_Ct} {r : z_R} (h : 0 ≤ ct.2.2.1.1) : 0 ≤ (z_nsg ct r).1 := by
  unfold z_nsg
  split
  · show 0 ≤ if ct.2.2.1.2.2.1 r.2.1 = 0 then ct.2.2.1.1 + 1 else ct.2.2.1.1
    split <;> omega
  · exact h
theorem z_nld_rng {ct : z_Ct} {r : z_R} (h : -1 ≤ ct.2.2.2.2.2.2.1 ∧ ct.2.2.2.2.2.2.1 ≤ ct.1.1 - 1) (ht : 0 ≤ ct.1.1) : -1 ≤ z_nld ct r ∧ z_nld ct r ≤ ct.1.1 := by
  unfold z_nld
  split <;> omega
theorem z_td_zero {ct : z_Ct} (h : z_ok ct) : ∀ j : Int, 0 ≤ j → j < 5 → (z_tdR ct).2.2.2.2 (j * 21 + ct.1.1 % 21) = 0 := by
  intro j h1 h2
  have hw := h.1
  have hst := hw.2.1
  have ht := hw.1
  by_cases q : j < ct.1.2.1
  · have h3 := z_td_z (t := ct.1.1) (st := ct.1.2.1) (dl := ct.1.2.2.2.2.1) ht hst hw.2.2.2.1 (0, ct.1.2.2.1, ct.1.2.2.2.1, ct.1.2.2.2.2.2.1, ct.1.2.2.2.2.2.2) ct.1.2.1.toNat (by omega) (fun k k1 k2 => (z_td_I hw k k1 (by omega)).2.2.2.2.2.1 _ (by omega) (by omega)) j h1 (by omega)
    exact h3
  · have h3 := (z_td_I hw ct.1.2.1 (by omega) (by omega)).2
    exact h3.2.2.2.2.2.2.2.2.2.1 j (ct.1.1 % 21) (by show ct.1.2.1 ≤ j; omega) h2 (by omega) (by omega)
