theorem y_td_in {ct : z_Ct} {g T : Int} (hok : z_ok ct) (h : y_in g ct.1.2.1 ct.1.1 T ct.1.2.2.2.2.1 0 ct.1.2.2.2.2.2.1 ct.1.2.2.2.2.2.2) : ∀ n : Nat, (n : Int) ≤ ct.1.2.1 → y_in g ct.1.2.1 ct.1.1 T ct.1.2.2.2.2.1 n (z_it (z_tdS ct.1.1 ct.1.2.1 ct.1.2.2.2.2.1) (0, ct.1.2.2.1, ct.1.2.2.2.1, ct.1.2.2.2.2.2.1, ct.1.2.2.2.2.2.2) n).2.2.2.1 (z_it (z_tdS ct.1.1 ct.1.2.1 ct.1.2.2.2.2.1) (0, ct.1.2.2.1, ct.1.2.2.2.1, ct.1.2.2.2.2.2.1, ct.1.2.2.2.2.2.2) n).2.2.2.2
  | 0, _ => h
  | n + 1, hn => by
    have hw := hok.1
    have h1 := y_td_in hok h n (by omega)
    have h2 := (y_td_I hw n (by omega)).2
    exact y_in_s hw.1 hw.2.1.2 hw.2.2.2.1 (by omega) (h2.2.2.2.2.2.2.2.2.1 n (by omega) (by show (n : Int) < ct.1.2.1; omega)) (h2.2.2.2.2.1 _ (by have := hw.1; omega) (by have := hw.2.1; omega)) h1
theorem y_nano {ct : z_Ct} {g T : Int} (hok : z_ok ct) (h : y_in g ct.1.2.1 ct.1.1 T ct.1.2.2.2.2.1 0 ct.1.2.2.2.2.2.1 ct.1.2.2.2.2.2.2) : y_pre g ct.1.2.1 (ct.1.1 + 1) (T + 1) ct.1.2.2.2.2.1 (z_nano ct).1.2.2.2.2.2.1 (z_nano ct).1.2.2.2.2.2.2 := by
  have hw := hok.1
  have h1 := y_td_in hok h ct.1.2.1.toNat (by have := hw.2.1; omega)
  exact y_pre_n hw.2.1.2 hw.2.2.2.1 h1
theorem y_ps_in {ct : z_Ct} {g n : Int} (hok : z_ok ct) (hg : 1 ≤ g) (hn : 0 ≤ n) (h : y_in g ct.1.2.1 ct.1.1 (n * g) ct.1.2.2.2.2.1 0 ct.1.2.2.2.2.2.1 ct.1.2.2.2.2.2.2) : ∀ j : Nat, (j : Int) + 1 ≤ g → y_pre g ct.1.2.1 (z_ps ct (j + 1)).1.1.1 (n * g + (j + 1)) ct.1.2.2.2.2.1 (z_ps ct (j + 1)).1.1.2.2.2.2.2.1 (z_ps ct (j + 1)).1.1.2.2.2.2.2.2
  | 0, _ => by
    have h1 := y_nano hok h
    exact h1
  | j + 1, hj => by
    have h1 := y_ps_in hok hg hn h j (by omega)
    obtain ⟨a1, a2, a3, a4, a5⟩ := z_ps_aux hok (j + 1)
    obtain ⟨b1, b2⟩ := z_ps_st (ct := ct) (j + 1)
    have h2 := y_in_n h1 (by rw [show n * g + ((j : Int) + 1) = n * g + ((j : Int) + 1) from rfl]; exact y_C_2 (n := n) (j := (j : Int) + 1) hg hn (by omega))
    rw [← b1, ← b2] at h2
    have h3 := y_nano a1 h2
    rw [b1, b2] at h3
    have e : n * g + (((j + 1 : Nat) : Int) + 1) = n * g + ((j : Int) + 1) + 1 := by omega
    rw [e]
    exact h3
theorem y_ps_ck {ct : z_Ct} : ∀ n : Nat, (z_ps ct n).1.2.2.2.2.1 = ct.2.2.2.2.1
  | 0 => rfl
  | n + 1 => y_ps_ck n
theorem y_wt_in {ct : z_Ct} {g : Int} (h : z_ok ct) (hg : 1 ≤ g ∧ g ≤ 50) (ht : ct.1.1 ≤ 100000) : ∀ n : Nat, n ≤ 32 → y_pre g ct.1.2.1 (z_wt ct g n).1.1.1 ((n : Int) * g) ct.1.2.2.2.2.1 (z_wt ct g n).1.1.2.2.2.2.2.1 (z_wt ct g n).1.1.2.2.2.2.2.2 ∧ (z_wt ct g n).1.2.2.2.2.1 = (n : Int) % z_p2 ct.1.2.1
  | 0, _ => by
    have hp := z_p2_le (k := ct.1.2.1) (by have := h.1.2.1; omega)
    have h1 := y_pre_0 (g := g) (st := ct.1.2.1) (t := ct.1.1) (dl := ct.1.2.2.2.2.1) h.1.2.1 h.1.2.2.2.1
    rw [show ((0 : Nat) : Int) * g = 0 by simp]
    exact ⟨h1, (Int.zero_emod _).symm⟩
  | n + 1, hn => by
    obtain ⟨h1, h2⟩ := y_wt_in h hg ht n (by omega)
    obtain ⟨a1, a2, a3, a4, a5, a6, a7⟩ := z_wt_ok h hg ht n (by omega)
    have h8 := z_ok_take a1 (by omega)
    have hw := a1.1
    have h3 := y_in_c hw.1 h.1.2.2.2.1 h.1.2.1.2 h1 (y_C_1 (n := (n : Int)) hg.1 (by omega))
    have e1 : (z_take (z_wt ct g n).1).1.2.1 = ct.1.2.1 := a2
    have e2 : (z_take (z_wt ct g n).1).1.2.2.2.2.1 = ct.1.2.2.2.2.1 := a3
    have h4 : y_in g (z_take (z_wt ct g n).1).1.2.1 (z_take (z_wt ct g n).1).1.1 ((n : Int) * g) (z_take (z_wt ct g n).1).1.2.2.2.2.1 0 (z_take (z_wt ct g n).1).1.2.2.2.2.2.1 (z_take (z_wt ct g n).1).1.2.2.2.2.2.2 := by
      rw [e1, e2]
      have e3 : (z_take (z_wt ct g n).1).1.2.2.2.2.2.2 = z_bg (z_wt ct g n).1.1.1 (z_wt ct g n).1.1.2.2.2.2.1 0 1 (z_wt ct g n).1.1.2.2.2.2.2.2 := rfl
      rw [e3, a3]
      exact h3
    have h5 := y_ps_in h8 hg.1 (show (0 : Int) ≤ n by omega) h4 (g.toNat - 1) (by omega)
    rw [e1, e2, show g.toNat - 1 + 1 = g.toNat by omega] at h5
    refine ⟨?_, ?_⟩
    · have e4 : (n : Int) * g + (((g.toNat - 1 : Nat) : Int) + 1) = ((n + 1 : Nat) : Int) * g := by
        rw [show ((n + 1 : Nat) : Int) = (n : Int) + 1 by omega, Int.add_mul, Int.one_mul]; omega
      rw [e4] at h5
      exact h5
    · have e5 : (z_wt ct g (n + 1)).1.2.2.2.2.1 = ((z_wt ct g n).1.2.2.2.2.1 + 1) % z_p2 (z_wt ct g n).1.1.2.1 := y_ps_ck (ct := z_take (z_wt ct g n).1) g.toNat
      rw [e5, a2, h2, show ((n + 1 : Nat) : Int) = (n : Int) + 1 by omega, Int.emod_add_emod]
