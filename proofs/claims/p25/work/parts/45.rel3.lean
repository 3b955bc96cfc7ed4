/-! ===== what is through is gone; the sum of what is on its way ===== -/
theorem z_td_z {t st : Int} {dl : Int → Int} (ht : 0 ≤ t) (hst : 1 ≤ st ∧ st ≤ 5) (hdl : ∀ j : Int, 0 ≤ j → j < 5 → 1 ≤ dl j ∧ dl j ≤ 20) (r0 : z_R) : ∀ n : Nat, (n : Int) ≤ st → (∀ k : Int, 0 ≤ k → k < n → 0 ≤ (z_it (z_tdS t st dl) r0 k.toNat).2.2.2.2 (k * 21 + t % 21)) → ∀ j : Int, 0 ≤ j → j < n → (z_it (z_tdS t st dl) r0 n).2.2.2.2 (j * 21 + t % 21) = 0
  | 0, _, _, j, h1, h2 => by omega
  | n + 1, hn, hp, j, h1, h2 => by
    have ih := z_td_z ht hst hdl r0 n (by omega) (fun k k1 k2 => hp k k1 (by omega))
    have hn0 := hp (n : Int) (by omega) (by omega)
    rw [Int.toNat_natCast] at hn0
    show (z_tdS t st dl (n : Int) (z_it (z_tdS t st dl) r0 n)).2.2.2.2 (j * 21 + t % 21) = 0
    generalize z_it (z_tdS t st dl) r0 n = r at ih hn0 ⊢
    by_cases q : 0 < r.2.2.2.2 ((n : Int) * 21 + t % 21)
    · by_cases q2 : (n : Int) + 1 < st
      · have hd := hdl ((n : Int) + 1) (by omega) (by omega)
        rw [z_tdS_1 q q2]
        dsimp only
        unfold z_bg
        rw [z_u_ne (by omega)]
        by_cases q3 : j = n
        · rw [q3, z_u_same]
        · rw [z_u_ne (by omega)]
          exact ih j h1 (by omega)
      · rw [z_tdS_2 q q2]
        dsimp only
        by_cases q3 : j = n
        · rw [q3, z_u_same]
        · rw [z_u_ne (by omega)]
          exact ih j h1 (by omega)
    · rw [z_tdS_3 q]
      by_cases q3 : j = n
      · rw [q3]; omega
      · exact ih j h1 (by omega)
theorem z_S_front (f : Int → Int) (a : Int) : ∀ n : Nat, z_S f a (n + 1) = f a + z_S f (a + 1) n
  | 0 => by
    rw [z_S_succ]
    show (0 : Int) + f (a + ((0 : Nat) : Int)) = f a + 0
    rw [show a + ((0 : Nat) : Int) = a by omega]
    omega
  | n + 1 => by
    rw [z_S_succ, z_S_front f a n, z_S_succ, show a + 1 + (n : Int) = a + ((n + 1 : Nat) : Int) by omega]
    omega
theorem z_S_rot (g : Int → Int) (n : Nat) : z_S (fun i => g (((n : Int) + i) % 21)) 0 21 = z_S (fun i => g (i % 21)) 0 21 := by
  induction n with
  | zero => exact z_S_congr 21 (fun i h1 h2 => by simp)
  | succ n ih =>
    rw [← ih]
    have h1 := z_S_front (fun i => g (((n : Int) + i) % 21)) 0 21
    rw [z_S_succ] at h1
    have h2 : z_S (fun i => g (((n : Int) + i) % 21)) (0 + 1) 21 = z_S (fun i => g ((((n + 1 : Nat) : Int) + i) % 21)) 0 21 := z_S_congr 21 (fun i h1 h2 => by
      show g (((n : Int) + (0 + 1 + i)) % 21) = g ((((n + 1 : Nat) : Int) + (0 + i)) % 21)
      congr 2
      omega)
    rw [← h2]
    have h3 : g (((n : Int) + (0 + ((21 : Nat) : Int))) % 21) = g (((n : Int) + 0) % 21) := by
      congr 1
      omega
    have h4 : (fun i => g (((n : Int) + i) % 21)) (0 + ((21 : Nat) : Int)) = g (((n : Int) + (0 + ((21 : Nat) : Int))) % 21) := rfl
    have h5 : (fun i => g (((n : Int) + i) % 21)) 0 = g (((n : Int) + 0) % 21) := rfl
    rw [h3] at h1
    omega
/-- all that is on its way: stage by stage, and all at once -/
theorem z_S_st {du : Int → Int} {st : Int} (hst : 0 ≤ st ∧ st ≤ 5) (hz : ∀ k i : Int, st ≤ k → k < 5 → 0 ≤ i → i < 21 → du (k * 21 + i) = 0) : z_it (fun k a => a + z_S du (k * 21) 21) 0 st.toNat = z_S du 0 105 := by
  have key : ∀ n : Nat, z_it (fun k a => a + z_S du (k * 21) 21) 0 n = z_S du 0 (n * 21) := by
    intro n
    induction n with
    | zero => rfl
    | succ n ih =>
      show z_it (fun k a => a + z_S du (k * 21) 21) 0 n + z_S du ((n : Int) * 21) 21 = _
      rw [ih, show (n + 1) * 21 = n * 21 + 21 by omega, z_S_add, show (0 : Int) + ((n * 21 : Nat) : Int) = (n : Int) * 21 by omega]
  rw [key]
  have h1 := z_S_add du 0 (st.toNat * 21) (105 - st.toNat * 21)
  rw [show st.toNat * 21 + (105 - st.toNat * 21) = 105 by omega] at h1
  rw [h1, z_S_zero (a := 0 + ((st.toNat * 21 : Nat) : Int)) (105 - st.toNat * 21) (fun i i1 i2 => ?_)]
  · omega
  · have h2 := hz ((0 + ((st.toNat * 21 : Nat) : Int) + i) / 21) ((0 + ((st.toNat * 21 : Nat) : Int) + i) % 21) (by omega) (by omega) (by omega) (by omega)
    rw [← h2]
    exact congrArg du (by omega)
theorem z_allOn {c : z_Ct} {r : z_R} {t b : Int} {f : Int → Int} (h : z_rl c (fun _ _ => True) (fun j x => r.2.2.2.2 (j * 21 + (t + x) % 21)) b f) (ht : 0 ≤ t) (hst : 1 ≤ c.1.2.1 ∧ c.1.2.1 ≤ 5) (hz : ∀ k i : Int, c.1.2.1 ≤ k → k < 5 → 0 ≤ i → i < 21 → r.2.2.2.2 (k * 21 + i) = 0) :
    z_it (fun k a => a + z_it (fun i a => a + f (b + 24 + 21 * k + i)) 0 21) 0 (f b).toNat = z_S r.2.2.2.2 0 105 := by
  rw [h.1.1, ← z_S_st (st := c.1.2.1) (by omega) hz]
  refine z_it_congr _ (fun k a k1 k2 => ?_)
  show a + z_it (fun i a => a + f (b + 24 + 21 * k + i)) 0 21 = a + z_S r.2.2.2.2 (k * 21) 21
  congr 1
  obtain ⟨n, rfl⟩ := Int.eq_ofNat_of_zero_le ht
  have e1 : z_it (fun i a => a + f (b + 24 + 21 * k + i)) 0 21 = z_S (fun i => r.2.2.2.2 (k * 21 + ((n : Int) + i) % 21)) 0 21 := by
    unfold z_S
    refine z_it_congr 21 (fun i a i1 i2 => ?_)
    show a + f (b + 24 + 21 * k + i) = a + r.2.2.2.2 (k * 21 + ((n : Int) + (0 + i)) % 21)
    rw [h.2.2.1 k i k1 (by omega) i1 (by omega) trivial, show (0 : Int) + i = i by omega]
  rw [e1, z_S_rot (fun i => r.2.2.2.2 (k * 21 + i)) n]
  exact z_S_congr 21 (fun i i1 i2 => by
    show r.2.2.2.2 (k * 21 + (0 + i) % 21) = r.2.2.2.2 (k * 21 + i)
    exact congrArg r.2.2.2.2 (by omega))
