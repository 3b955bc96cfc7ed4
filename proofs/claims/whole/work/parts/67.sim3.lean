theorem y_F_cl (g : Int) (dl : Int → Int) : ∀ (k : Nat) (x : Int), y_F g dl k x = y_C g (x - z_S dl 0 k) / z_p2 k
  | 0, x => by
    show y_C g x = y_C g (x - 0) / z_p2 ((0 : Nat) : Int)
    rw [Int.sub_zero, show z_p2 ((0 : Nat) : Int) = 1 from rfl, Int.ediv_one]
  | k + 1, x => by
    have hp := z_p2_pos (k : Int)
    show y_F g dl k (x - dl k) / 2 = _
    rw [y_F_cl g dl k, z_S_succ, Int.zero_add, show x - dl k - z_S dl 0 k = x - (z_S dl 0 k + dl k) by omega, Int.ediv_ediv, if_neg (fun z => by omega), Int.sub_zero]
    congr 1
theorem y_C_cl {g n D : Int} (hg : 1 ≤ g) (hD : 0 ≤ D) : y_C g (n * g - D) = if 0 < n - D / g then n - D / g else 0 := by
  unfold y_C
  have e := Int.mul_ediv_add_emod D g
  have r1 := Int.emod_nonneg D (show ¬ g = 0 by omega)
  have r2 := Int.emod_lt_of_pos D (show 0 < g by omega)
  have e2 : n * g - D = (n - D / g) * g - D % g := by rw [Int.sub_mul, Int.mul_comm (D / g) g]; omega
  by_cases q : 0 < n - D / g
  · have h1 : 1 * g ≤ (n - D / g) * g := Int.mul_le_mul_of_nonneg_right (by omega) (by omega)
    rw [if_pos q, if_neg (by omega), e2, show (n - D / g) * g - D % g - 1 = (g - 1 - D % g) + (n - D / g - 1) * g by rw [Int.sub_mul (n - D / g) 1 g]; omega, Int.add_mul_ediv_right _ _ (by omega), Int.ediv_eq_zero_of_lt (by omega) (by omega)]
    omega
  · have h1 : (n - D / g) * g ≤ 0 * g := Int.mul_le_mul_of_nonneg_right (by omega) (by omega)
    rw [if_neg q, if_pos (by omega)]
theorem y_rt_iff {dl : Int → Int} {c g : Int} : ∀ (n : Nat) (k th : Int), z_rt dl c g k th n = 1 ↔ ∀ i : Nat, i < n → z_bit (if 0 < c - (th + z_S dl k (i + 1)) / g then c - (th + z_S dl k (i + 1)) / g else 0) (k + i) = z_bit c (k + i)
  | 0, _, _ => ⟨fun _ i hi => by omega, fun _ => rfl⟩
  | n + 1, k, th => by
    rw [z_rt_step (m := n) rfl]
    have e0 : z_S dl k (0 + 1) = dl k := by rw [z_S_succ]; show (0 : Int) + dl (k + ((0 : Nat) : Int)) = dl k; rw [show k + ((0 : Nat) : Int) = k by omega, Int.zero_add]
    have hs : ∀ i : Nat, th + z_S dl k (i + 1 + 1) = th + dl k + z_S dl (k + 1) (i + 1) := fun i => by rw [z_S_front]; omega
    by_cases q : z_bit (if 0 < c - (th + dl k) / g then c - (th + dl k) / g else 0) k = z_bit c k
    · rw [if_pos q, y_rt_iff n]
      constructor
      · intro h i hi
        cases i with
        | zero => rw [e0, show k + ((0 : Nat) : Int) = k by omega]; exact q
        | succ i => rw [hs, show k + ((i + 1 : Nat) : Int) = k + 1 + (i : Int) by omega]; exact h i (by omega)
      · intro h i hi
        have h1 := h (i + 1) (by omega)
        rw [hs, show k + ((i + 1 : Nat) : Int) = k + 1 + (i : Int) by omega] at h1
        exact h1
    · rw [if_neg q]
      refine ⟨fun z => by omega, fun h => ?_⟩
      have h1 := h 0 (by omega)
      rw [e0, show k + ((0 : Nat) : Int) = k by omega] at h1
      exact absurd h1 q
theorem y_dbm : ∀ s : Nat, s < 6 → ∀ c : Nat, c < 33 → ∀ k : Nat, k < s → ((c : Int) % ((2 ^ s : Nat) : Int)) / ((2 ^ k : Nat) : Int) % 2 = (c : Int) / ((2 ^ k : Nat) : Int) % 2 := by decide +kernel
theorem y_bit_m {c k s : Int} (hs : 0 ≤ s ∧ s ≤ 5) (hc : 0 ≤ c ∧ c ≤ 32) (hk : 0 ≤ k ∧ k < s) : z_bit (c % z_p2 s) k = z_bit c k := by
  obtain ⟨c, rfl⟩ := Int.eq_ofNat_of_zero_le hc.1
  obtain ⟨k, rfl⟩ := Int.eq_ofNat_of_zero_le hk.1
  obtain ⟨s, rfl⟩ := Int.eq_ofNat_of_zero_le hs.1
  unfold z_bit
  rw [z_p2_nat, z_p2_nat]
  exact y_dbm s (by omega) c (by omega) k (by omega)
theorem y_bits {x y s : Int} (hs : 0 ≤ s) (hx : 0 ≤ x ∧ x < z_p2 s) (hy : 0 ≤ y ∧ y < z_p2 s) (h : ∀ k : Nat, (k : Int) < s → z_bit x k = z_bit y k) : x = y := by
  obtain ⟨x, rfl⟩ := Int.eq_ofNat_of_zero_le hx.1
  obtain ⟨y, rfl⟩ := Int.eq_ofNat_of_zero_le hy.1
  obtain ⟨s, rfl⟩ := Int.eq_ofNat_of_zero_le hs
  rw [z_p2_nat] at hx hy
  have h1 := z_bits_sum x s
  have h2 := z_bits_sum y s
  rw [z_it_congr s (g := fun k a => a + z_bit (y : Int) k * z_p2 k) (fun k a k1 k2 => by
    obtain ⟨n, rfl⟩ := Int.eq_ofNat_of_zero_le k1
    show a + z_bit (x : Int) (n : Int) * z_p2 n = a + z_bit (y : Int) (n : Int) * z_p2 n
    rw [h n (by omega)]), h2] at h1
  rw [Nat.mod_eq_of_lt (by omega), Nat.mod_eq_of_lt (by omega)] at h1
  exact h1.symm
theorem y_wt_wc {ct : z_Ct} {g : Int} (h : z_ok ct) (hg : 1 ≤ g ∧ g ≤ 50) (ht : ct.1.1 ≤ 100000) : (z_wt ct g (z_p2 ct.1.2.1).toNat).2 = z_wc ct.1.2.1 ct.1.2.2.2.2.1 g := by
  have hst := h.1.2.1
  have hdl := h.1.2.2.2.1
  have hp := z_p2_le (k := ct.1.2.1) (by omega)
  have key : ∀ n : Nat, n ≤ 32 → (z_wt ct g n).2 = z_it (fun j a => if z_rt ct.1.2.2.2.2.1 (j + 1) g 0 0 ct.1.2.1.toNat = 0 then a + 1 else a) 0 n := by
    intro n
    induction n with
    | zero => intro _; rfl
    | succ n ih =>
      intro hn
      rw [z_wt_s, ih (by omega)]
      show z_it (fun j a => if z_rt ct.1.2.2.2.2.1 (j + 1) g 0 0 ct.1.2.1.toNat = 0 then a + 1 else a) 0 n + _ = if z_rt ct.1.2.2.2.2.1 ((n : Int) + 1) g 0 0 ct.1.2.1.toNat = 0 then z_it (fun j a => if z_rt ct.1.2.2.2.2.1 (j + 1) g 0 0 ct.1.2.1.toNat = 0 then a + 1 else a) 0 n + 1 else z_it (fun j a => if z_rt ct.1.2.2.2.2.1 (j + 1) g 0 0 ct.1.2.1.toNat = 0 then a + 1 else a) 0 n
      have e9 : (z_ps (z_take (z_wt ct g n).1) g.toNat).1 = (z_wt ct g (n + 1)).1 := rfl
      rw [e9]
      obtain ⟨a1, a2, a3, a4, a5, a6, a7⟩ := z_wt_ok h hg ht (n + 1) hn
      obtain ⟨b1, b2⟩ := y_wt_in h hg ht (n + 1) hn
      have hw := a1.1
      have hsh := hw.2.2.1
      have hbt := hw.2.2.2.2.2.2.2.2.1
      have hck := a1.2.2.2.2.1
      rw [a2] at hsh hck
      have hbit : ∀ i : Nat, (i : Int) < ct.1.2.1 → z_bit (z_wt ct g (n + 1)).1.1.2.2.1 i = z_bit (if 0 < ((n : Int) + 1) - (0 + z_S ct.1.2.2.2.2.1 0 (i + 1)) / g then ((n : Int) + 1) - (0 + z_S ct.1.2.2.2.2.1 0 (i + 1)) / g else 0) (0 + i) := by
        intro i hi
        have hnn := z_S_nn (f := ct.1.2.2.2.2.1) (a := 0) (i + 1) (fun j j1 j2 => by have := hdl (0 + j) (by omega) (by omega); omega)
        rw [hbt i (by omega) (by rw [a2]; exact hi), (b1 i hi).1, y_F_cl, z_S_succ] at *
        rw [Int.zero_add] at *
        rw [show ((n + 1 : Nat) : Int) * g - ct.1.2.2.2.2.1 i - z_S ct.1.2.2.2.2.1 0 i = ((n + 1 : Nat) : Int) * g - (z_S ct.1.2.2.2.2.1 0 i + ct.1.2.2.2.2.1 i) by omega, y_C_cl hg.1 hnn, show ((n + 1 : Nat) : Int) = (n : Int) + 1 by omega]
        simp only [Int.zero_add]
        rfl
      have hiff : z_rt ct.1.2.2.2.2.1 ((n : Int) + 1) g 0 0 ct.1.2.1.toNat = 1 ↔ (z_wt ct g (n + 1)).1.1.2.2.1 = (z_wt ct g (n + 1)).1.2.2.2.2.1 := by
        rw [y_rt_iff]
        constructor
        · intro z
          refine y_bits (s := ct.1.2.1) (by omega) hsh hck (fun k hk => ?_)
          rw [hbit k hk, z k (by omega), b2, y_bit_m (by omega) (by omega) ⟨by omega, hk⟩, Int.zero_add, show ((n + 1 : Nat) : Int) = (n : Int) + 1 by omega]
        · intro z i hi
          rw [← hbit i (by omega), z, b2, y_bit_m (by omega) (by omega) ⟨by omega, by omega⟩, Int.zero_add, show ((n + 1 : Nat) : Int) = (n : Int) + 1 by omega]
      by_cases q : (z_wt ct g (n + 1)).1.1.2.2.1 = (z_wt ct g (n + 1)).1.2.2.2.2.1
      · rw [if_pos q, if_neg (by rw [hiff.mpr q]; decide), Int.add_zero]
      · rw [if_neg q]
        rcases z_rt01 ct.1.2.2.2.2.1 ((n : Int) + 1) g ct.1.2.1.toNat 0 0 with z | z
        · rw [if_pos z]
        · exact absurd (hiff.mp z) q
  exact key _ (by omega)
