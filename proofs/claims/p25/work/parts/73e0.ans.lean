theorem x_gif_rng {st k : Int} {dl : Int → Int} (hst : 1 ≤ st ∧ st ≤ 5) (hdl : ∀ j : Int, 0 ≤ j → j < 5 → 1 ≤ dl j ∧ dl j ≤ 20) (hk : 0 ≤ k ∧ k < st) : 2 ≤ z_gif st dl k ∧ z_gif st dl k ≤ 51 := by
  rw [← z_sf_gif hk]
  refine x_sf_rng hst (fun j j1 j2 => ?_)
  unfold z_u
  split
  · omega
  · exact hdl j j1 j2
theorem x_tb_t {st k bl le bl2 le2 : Int} {dl : Int → Int} (hk : 0 ≤ k) (h : (k = 0 ∧ le = 99 ∧ bl = -1) ∨ (1 ≤ k ∧ (bl, le) = z_it (fun j q => if z_gif st dl (j + 1) < q.2 then (j + 1, z_gif st dl (j + 1)) else q) (0, z_gif st dl 0) (k - 1).toNat)) (h0 : z_gif st dl 0 ≤ 51) (e1 : bl2 = if z_gif st dl k < le then k else bl) (e2 : le2 = if z_gif st dl k < le then z_gif st dl k else le) : (bl2, le2) = z_it (fun j q => if z_gif st dl (j + 1) < q.2 then (j + 1, z_gif st dl (j + 1)) else q) (0, z_gif st dl 0) (k + 1 - 1).toNat := by
  rw [e1, e2]
  exact x_tb_s hk (h.imp (fun q => ⟨q.1, q.2.1⟩) id) h0
/-! ===== what changes answer ===== -/
theorem x_cdY {ct : z_Ct} {k v : Int} (hk : 0 ≤ k ∧ k < ct.1.2.1) (hv : 1 ≤ v ∧ v ≤ 20) : (z_cd ct k v).2 = ct.1.2.2.2.2.1 k ∧ (z_cd ct k v).1.1.1 = ct.1.1 ∧ (z_cd ct k v).1.1.2.1 = ct.1.2.1 ∧ (z_cd ct k v).1.1.2.2.2.2.1 k = v := by
  unfold z_cd
  rw [if_pos hk, if_pos hv]
  exact ⟨rfl, rfl, rfl, z_u_same _ _ _⟩
theorem x_cdN {ct : z_Ct} {k v : Int} (hk : ¬ (0 ≤ k ∧ k < ct.1.2.1)) : (z_cd ct k v).2 = -1 ∧ (z_cd ct k v).1 = ct := by
  unfold z_cd
  rw [if_neg hk]
  exact ⟨rfl, rfl⟩
theorem x_rgY {ct : z_Ct} (h : ¬ 99 ≤ ct.2.1.1 + ct.2.2.2.2.2.2.2) : (z_rg ct).2 = ct.1.2.2.1 ∧ (z_rg ct).1.1 = ct.1 ∧ (z_rg ct).1.2.2.2.2.1 = ct.2.2.2.2.1 ∧ (z_rg ct).1.2.1.1 = ct.2.1.1 + 1 ∧ (z_rg ct).1.2.1.2.1 ct.2.1.1 = ct.1.2.2.1 ∧ (z_rg ct).1.2.1.2.2.1 ct.2.1.1 = ct.1.1 ∧ (z_rg ct).1.2.1.2.2.2.1 ct.2.1.1 = ct.2.2.2.2.1 ∧ (z_rg ct).1.2.1.2.2.2.2 ct.2.1.1 = 0 := by
  unfold z_rg
  rw [if_neg h]
  exact ⟨rfl, rfl, rfl, rfl, z_u_same _ _ _, z_u_same _ _ _, z_u_same _ _ _, z_u_same _ _ _⟩
theorem x_rgN {ct : z_Ct} (h : 99 ≤ ct.2.1.1 + ct.2.2.2.2.2.2.2) : (z_rg ct).2 = -4 ∧ (z_rg ct).1 = ct := by
  unfold z_rg
  rw [if_pos h]
  exact ⟨rfl, rfl⟩
theorem x_slA {ct : z_Ct} (hl : ct.2.2.2.2.2.2.2 = 0 ∨ ct.2.2.2.2.2.2.2 = 1) : ((ct.2.2.2.2.2.2.2 = 1 ∧ (z_sl ct).2 = -5 ∧ (z_sl ct).1.2.2.2.2.2.2.2 = 1) ∨ (ct.2.2.2.2.2.2.2 = 0 ∧ 99 ≤ ct.2.1.1 ∧ (z_sl ct).2 = -4) ∨ (ct.2.2.2.2.2.2.2 = 0 ∧ ct.2.1.1 < 99 ∧ (z_sl ct).2 = 1 ∧ (z_sl ct).1.2.2.2.2.2.2.2 = 1)) ∧ (z_sl ct).1.1 = ct.1 := by
  unfold z_sl
  rcases hl with q | q
  · rw [if_neg (by omega)]
    by_cases h : 99 ≤ ct.2.1.1
    · rw [if_pos h]
      exact ⟨Or.inr (Or.inl ⟨q, h, rfl⟩), rfl⟩
    · rw [if_neg h]
      exact ⟨Or.inr (Or.inr ⟨q, by omega, rfl, rfl⟩), rfl⟩
  · rw [if_pos (by omega)]
    exact ⟨Or.inl ⟨q, rfl, q⟩, rfl⟩
theorem x_holdA {ct : z_Ct} {k : Int} (hk : 0 ≤ k ∧ k ≤ 20) : (z_chg ct 1 k).2 = ct.2.2.2.1 ∧ (z_chg ct 1 k).1.2.2.2.1 = k ∧ (z_chg ct 1 k).1.1 = ct.1 := by
  show (z_chh ct k).2 = ct.2.2.2.1 ∧ (z_chh ct k).1.2.2.2.1 = k ∧ (z_chh ct k).1.1 = ct.1
  unfold z_chh
  rw [if_pos hk]
  exact ⟨rfl, rfl, rfl⟩
theorem x_stA {ct : z_Ct} {k : Int} (hk : 1 ≤ k ∧ k ≤ 5) : z_chg ct 0 k = (z_anew ct k, ct.1.2.1) := by
  show z_cs ct k = _
  unfold z_cs
  rw [if_pos hk]
theorem x_c6_anew (ct : z_Ct) (k : Int) : x_c6 (z_anew ct k) = 0 := rfl
theorem x_tcY {ct : z_Ct} (h : ct.2.2.2.2.2.1 = ct.1.1) : z_tcA ct = -5 ∧ z_tc ct = ct := by
  unfold z_tcA z_tc
  rw [if_pos h, if_pos h]
  exact ⟨rfl, rfl⟩
theorem x_tcN {ct : z_Ct} (h : ¬ ct.2.2.2.2.2.1 = ct.1.1) : z_tcA ct = (ct.2.2.2.2.1 + 1) % z_p2 ct.1.2.1 ∧ z_tc ct = z_take ct := by
  unfold z_tcA z_tc
  rw [if_neg h, if_neg h]
  exact ⟨rfl, rfl⟩
/-! ===== a new counter, and the test's beginning ===== -/
theorem x_ok_ct0 : x_ok z_ct0 := ⟨z_ok_ct0, by decide +kernel, fun h => absurd h (by decide), ⟨fun i j i1 i2 i3 => absurd (show j < 0 from i3) (by omega), fun i i1 i2 => absurd (show i < 0 from i2) (by omega)⟩, fun i j i1 i2 i3 => absurd (show j < 0 from i3) (by omega)⟩
theorem x_fr_0 {st : Int} {dl : Int → Int} (hst : 1 ≤ st ∧ st ≤ 5) : x_fr (z_anew z_ct0 st) st dl 0 := ⟨x_anew x_ok_ct0 hst, rfl, rfl, fun j j1 j2 => absurd j2 (by omega), fun j j1 => rfl⟩
theorem x_run_c5 {c q : z_Ct} {g n wr : Int} (h : x_run c q g n wr) : x_c5 q q.2.1.1 = n - wr ∧ q.2.1.1 = n := by
  refine ⟨?_, h.2.2.2.2.2.1⟩
  unfold x_c5
  rw [h.2.2.2.2.2.1]
  exact h.2.2.2.2.2.2.2.1
theorem x_ps_B {ct : z_Ct} (h : z_ok ct) (ht : ct.1.1 ≤ 9999) {g : Int} (hg : 1 ≤ g ∧ g ≤ 50) : (z_ps ct g.toNat).2 ≤ 2500000 := by
  have h1 := (z_ps_aux h g.toNat).2.2.2.2
  have h2 := h.2.2.2.2.2.1
  have h3 : ((g.toNat : Nat) : Int) = g := by omega
  rw [h3] at h1
  have h4 : g * (5 * (ct.2.2.2.2.2.1 + 1)) ≤ 50 * (5 * (ct.2.2.2.2.2.1 + 1)) := Int.mul_le_mul_of_nonneg_right hg.2 (by omega)
  omega
theorem x_shck {ct : z_Ct} (h : z_ok ct) : (0 ≤ ct.1.2.2.1 ∧ ct.1.2.2.1 ≤ 32) ∧ (0 ≤ ct.2.2.2.2.1 ∧ ct.2.2.2.2.1 ≤ 32) := by
  have h1 := h.1.2.2.1
  have h2 := h.2.2.2.2.1
  have h3 := z_p2_le (k := ct.1.2.1) (by have := h.1.2.1; omega)
  omega
theorem inTX6 : ∀ w ∈ u_ws RX6 TX6 6, w ∈ wsL_isTest := by decide +kernel
