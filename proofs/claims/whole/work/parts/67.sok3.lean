theorem y_rg_ok {ct : z_Ct} (h : z_ok ct) (ht : ct.1.1 ≤ 9999) : z_ok (z_rg ct).1 ∧ (z_rg ct).1.1.1 ≤ 9999 ∧ -5 ≤ (z_rg ct).2 ∧ (z_rg ct).2 < 100 := by
  obtain ⟨hw, hrd, hsg, hho, hck, hlc, hld, hlw, hrl⟩ := id h
  have hst := hw.2.1
  have hsh := hw.2.2.1
  have ht0 := hw.1
  have hp := z_p2_le (k := ct.1.2.1) (by omega)
  unfold z_rg
  split
  · exact ⟨h, ht, by dsimp only; omega, by dsimp only; omega⟩
  · refine ⟨⟨hw, y_rok_add hrd (by omega) (by omega) (by omega) (by show 0 ≤ ct.1.1 ∧ ct.1.1 ≤ ct.1.1; omega) (Or.inl rfl), hsg, hho, hck, hlc, hld, hlw, ?_⟩, ht, by dsimp only; omega, by dsimp only; omega⟩
    show ct.2.1.1 + 1 + ct.2.2.2.2.2.2.2 ≤ 99
    omega
theorem y_sl_ok {ct : z_Ct} (h : z_ok ct) (ht : ct.1.1 ≤ 9999) : z_ok (z_sl ct).1 ∧ (z_sl ct).1.1.1 ≤ 9999 ∧ -5 ≤ (z_sl ct).2 ∧ (z_sl ct).2 < 100 := by
  obtain ⟨hw, hrd, hsg, hho, hck, hlc, hld, hlw, hrl⟩ := id h
  unfold z_sl
  split
  · exact ⟨h, ht, by dsimp only; omega, by dsimp only; omega⟩
  · split
    · exact ⟨h, ht, by dsimp only; omega, by dsimp only; omega⟩
    · refine ⟨⟨hw, hrd, hsg, hho, hck, hlc, hld, Or.inr rfl, ?_⟩, ht, by dsimp only; omega, by dsimp only; omega⟩
      show ct.2.1.1 + 1 ≤ 99
      omega
theorem y_cd_ok {ct : z_Ct} (h : z_ok ct) (ht : ct.1.1 ≤ 9999) (k v : Int) : z_ok (z_cd ct k v).1 ∧ (z_cd ct k v).1.1.1 ≤ 9999 ∧ -5 ≤ (z_cd ct k v).2 ∧ (z_cd ct k v).2 < 100 := by
  obtain ⟨hw, hrd, hsg, hho, hck, hlc, hld, hlw, hrl⟩ := id h
  obtain ⟨ht0, hst, hsh, hdl, hdu, hdn, hB, htot, hbit, hzero, how⟩ := hw
  unfold z_cd
  split
  · rename_i c
    have hk := hdl k c.1 (by omega)
    split
    · rename_i c2
      refine ⟨⟨⟨ht0, hst, hsh, ?_, hdu, hdn, hB, htot, hbit, hzero, how⟩, hrd, hsg, hho, hck, hlc, hld, hlw, hrl⟩, ht, by dsimp only; omega, by dsimp only; omega⟩
      intro i i1 i2
      show 1 ≤ z_u ct.1.2.2.2.2.1 k v i ∧ z_u ct.1.2.2.2.2.1 k v i ≤ 20
      by_cases q : i = k
      · rw [q, z_u_same]; exact c2
      · rw [z_u_ne q]; exact hdl i i1 i2
    · exact ⟨h, ht, by dsimp only; omega, by dsimp only; omega⟩
  · exact ⟨h, ht, by dsimp only; omega, by dsimp only; omega⟩
theorem y_chg_ok {ct : z_Ct} (h : z_ok ct) (ht : ct.1.1 ≤ 9999) (w k : Int) : z_ok (z_chg ct w k).1 ∧ (z_chg ct w k).1.1.1 ≤ 9999 ∧ -5 ≤ (z_chg ct w k).2 ∧ (z_chg ct w k).2 < 100 := by
  obtain ⟨hw, hrd, hsg, hho, hck, hlc, hld, hlw, hrl⟩ := id h
  have hst := hw.2.1
  unfold z_chg
  split
  · unfold z_cs
    split
    · rename_i c
      exact ⟨y_ok_anew h c, ht, by dsimp only; omega, by dsimp only; omega⟩
    · exact ⟨h, ht, by dsimp only; omega, by dsimp only; omega⟩
  · split
    · unfold z_chh
      split
      · rename_i c
        exact ⟨⟨hw, hrd, hsg, c, hck, hlc, hld, hlw, hrl⟩, ht, by dsimp only; omega, by dsimp only; omega⟩
      · exact ⟨h, ht, by dsimp only; omega, by dsimp only; omega⟩
    · exact ⟨h, ht, by dsimp only; omega, by dsimp only; omega⟩
