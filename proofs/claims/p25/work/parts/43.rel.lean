/-! ===== a row of the reference tells a counter ===== -/
def z_rl (c : z_Ct) (P : Int → Int → Prop) (e : Int → Int → Int) (b : Int) (f : Int → Int) : Prop :=
  (f b = c.1.2.1 ∧ f (b + 1) = c.2.2.2.1 ∧ f (b + 2) = c.1.1 ∧ f (b + 3) = c.2.2.2.2.1 ∧ f (b + 4) = c.2.2.2.2.2.1 ∧ f (b + 5) = c.2.2.2.2.2.2.1 ∧ f (b + 6) = c.2.2.2.2.2.2.2 ∧ f (b + 7) = c.2.1.1 ∧ f (b + 8) = c.2.2.1.1) ∧
  (∀ k : Int, 0 ≤ k → k < 5 → f (b + 9 + k) = c.1.2.2.2.2.1 k ∧ f (b + 14 + k) = z_bit c.1.2.2.1 k ∧ f (b + 19 + k) = c.1.2.2.2.2.2.1 k) ∧
  (∀ k i : Int, 0 ≤ k → k < 5 → 0 ≤ i → i < 21 → P k i → f (b + 24 + 21 * k + i) = e k i) ∧
  (∀ i : Int, 0 ≤ i → i < c.2.1.1 → f (b + 129 + i) = 2048 * c.2.1.2.2.1 i + 64 * c.2.1.2.1 i + 2 * c.2.1.2.2.2.1 i + c.2.1.2.2.2.2 i) ∧
  (∀ i : Int, 0 ≤ i → i < c.2.2.1.1 → f (b + 228 + 4 * i) = c.2.2.1.2.1 i ∧ f (b + 228 + 4 * i + 1) = c.2.2.1.2.2.1 (c.2.2.1.2.1 i) ∧ f (b + 228 + 4 * i + 2) = c.2.2.1.2.2.2.1 (c.2.2.1.2.1 i) ∧ f (b + 228 + 4 * i + 3) = c.2.2.1.2.2.2.2 (c.2.2.1.2.1 i))
def z_rel (c : z_Ct) (b : Int) (f : Int → Int) : Prop := z_rl c (fun _ _ => True) (fun k i => c.1.2.2.2.2.2.2 (k * 21 + (c.1.1 + i) % 21)) b f
def z_fr (b : Int) (f g : Int → Int) : Prop := ∀ j : Int, j < b ∨ b + 356 ≤ j → g j = f j
theorem z_bits_sum (x : Nat) : ∀ n : Nat, z_it (fun k a => a + z_bit (x : Int) k * z_p2 k) 0 n = ((x % 2 ^ n : Nat) : Int)
  | 0 => by
    show (0 : Int) = _
    rw [Nat.pow_zero, Nat.mod_one]
    rfl
  | n + 1 => by
    show z_it (fun k a => a + z_bit (x : Int) k * z_p2 k) 0 n + z_bit (x : Int) (n : Int) * z_p2 (n : Int) = _
    rw [z_bits_sum x n, Nat.pow_succ, Nat.mod_mul]
    unfold z_bit
    rw [z_p2_nat]
    push_cast
    rw [Int.mul_comm]
theorem z_it_congr {f g : Int → Int → Int} {a : Int} : ∀ (n : Nat), (∀ (k : Int) (x : Int), 0 ≤ k → k < n → f k x = g k x) → z_it f a n = z_it g a n
  | 0, _ => rfl
  | n + 1, h => by
    show f n (z_it f a n) = g n (z_it g a n)
    rw [z_it_congr n (fun k x h1 h2 => h k x h1 (by omega)), h _ _ (by omega) (by omega)]
theorem z_shows {c : z_Ct} {P : Int → Int → Prop} {e : Int → Int → Int} {b : Int} {f : Int → Int} (h : z_rl c P e b f) (hst : 1 ≤ c.1.2.1 ∧ c.1.2.1 ≤ 5) (hsh : 0 ≤ c.1.2.2.1 ∧ c.1.2.2.1 < z_p2 c.1.2.1) : z_it (fun k a => a + f (b + 14 + k) * z_p2 k) 0 (f b).toNat = c.1.2.2.1 := by
  obtain ⟨x, hx⟩ := Int.eq_ofNat_of_zero_le hsh.1
  rw [h.1.1, z_it_congr (g := fun k a => a + z_bit (x : Int) k * z_p2 k) c.1.2.1.toNat (fun k y h1 h2 => by rw [(h.2.1 k h1 (by omega)).2.1, hx]), z_bits_sum, hx]
  obtain ⟨n, hn⟩ := Int.eq_ofNat_of_zero_le (show 0 ≤ c.1.2.1 by omega)
  rw [hn, Int.toNat_natCast]
  rw [hn, hx, z_p2_nat] at hsh
  rw [Nat.mod_eq_of_lt (by omega)]
theorem z_out01 {c : z_Ct} {P : Int → Int → Prop} {e : Int → Int → Int} {b : Int} {f : Int → Int} (h : z_rl c P e b f) : ∀ k : Int, 0 ≤ k → k < 5 → f (b + 14 + k) = 0 ∨ f (b + 14 + k) = 1 := fun k h1 h2 => by
  rw [(h.2.1 k h1 h2).2.1]
  exact z_bit01 _ _
/-- a reading is put to the row -/
theorem z_rl_read {c : z_Ct} {P : Int → Int → Prop} {e : Int → Int → Int} {b lt : Int} {f g : Int → Int} (h : z_rl c P e b f) (hrn : 0 ≤ c.2.1.1 ∧ c.2.1.1 < 99) (h1 : g (b + 129 + c.2.1.1) = 2048 * c.1.1 + 64 * c.1.2.2.1 + 2 * c.2.2.2.2.1 + lt) (h2 : g (b + 7) = c.2.1.1 + 1) (hg : ∀ j : Int, ¬ j = b + 129 + c.2.1.1 → ¬ j = b + 7 → g j = f j) : z_rl (c.1, (z_rad c.2.1 c.1.2.2.1 c.1.1 c.2.2.2.2.1 lt), c.2.2.1, c.2.2.2.1, c.2.2.2.2.1, c.2.2.2.2.2.1, c.2.2.2.2.2.2.1, c.2.2.2.2.2.2.2) P e b g := by
  obtain ⟨a1, a2, a3, a4, a5⟩ := h
  refine ⟨?_, ?_, ?_, ?_, ?_⟩
  · rw [hg b (by omega) (by omega), hg (b + 1) (by omega) (by omega), hg (b + 2) (by omega) (by omega), hg (b + 3) (by omega) (by omega), hg (b + 4) (by omega) (by omega), hg (b + 5) (by omega) (by omega), hg (b + 6) (by omega) (by omega), hg (b + 8) (by omega) (by omega)]
    exact ⟨a1.1, a1.2.1, a1.2.2.1, a1.2.2.2.1, a1.2.2.2.2.1, a1.2.2.2.2.2.1, a1.2.2.2.2.2.2.1, h2, a1.2.2.2.2.2.2.2.2⟩
  · intro k k1 k2
    rw [hg (b + 9 + k) (by omega) (by omega), hg (b + 14 + k) (by omega) (by omega), hg (b + 19 + k) (by omega) (by omega)]
    exact a2 k k1 k2
  · intro k i k1 k2 i1 i2 hp
    rw [hg _ (by omega) (by omega)]
    exact a3 k i k1 k2 i1 i2 hp
  · intro i i1 i2
    have i2' : i < c.2.1.1 + 1 := i2
    show g (b + 129 + i) = 2048 * z_u c.2.1.2.2.1 c.2.1.1 c.1.1 i + 64 * z_u c.2.1.2.1 c.2.1.1 c.1.2.2.1 i + 2 * z_u c.2.1.2.2.2.1 c.2.1.1 c.2.2.2.2.1 i + z_u c.2.1.2.2.2.2 c.2.1.1 lt i
    by_cases hi : i = c.2.1.1
    · rw [hi, z_u_same, z_u_same, z_u_same, z_u_same]
      exact h1
    · rw [z_u_ne hi, z_u_ne hi, z_u_ne hi, z_u_ne hi, hg _ (by omega) (by omega)]
      exact a4 i i1 (by omega)
  · intro i i1 i2
    have i2' : i < c.2.2.1.1 := i2
    rw [hg (b + 228 + 4 * i) (by omega) (by omega), hg (b + 228 + 4 * i + 1) (by omega) (by omega), hg (b + 228 + 4 * i + 2) (by omega) (by omega), hg (b + 228 + 4 * i + 3) (by omega) (by omega)]
    exact a5 i i1 i2'
/-- a number is seen for the first time -/
theorem z_rl_new {c : z_Ct} {P : Int → Int → Prop} {e : Int → Int → Int} {b fb : Int} {f g : Int → Int} (h : z_rl c P e b f) (hs : z_sok c.2.2.1 c.1.1) (hsh : 0 ≤ c.1.2.2.1 ∧ c.1.2.2.1 < 32) (hfb : fb = 0 ∨ fb = 1) (h0 : c.2.2.1.2.2.1 c.1.2.2.1 = 0) (hsn : c.2.2.1.1 < 32) (hrn99 : c.2.1.1 ≤ 99)
    (h1 : g (b + 228 + 4 * c.2.2.1.1) = c.1.2.2.1) (h2 : g (b + 228 + 4 * c.2.2.1.1 + 1) = 1) (h3 : g (b + 228 + 4 * c.2.2.1.1 + 2) = fb) (h4 : g (b + 228 + 4 * c.2.2.1.1 + 3) = c.1.1) (h5 : g (b + 8) = c.2.2.1.1 + 1)
    (hg : ∀ j : Int, ¬ j = b + 8 → (j < b + 228 + 4 * c.2.2.1.1 ∨ b + 228 + 4 * c.2.2.1.1 + 3 < j) → g j = f j) : z_rl (c.1, c.2.1, (z_sad c.2.2.1 c.1.2.2.1 c.1.1 fb), c.2.2.2.1, c.2.2.2.2.1, c.2.2.2.2.2.1, c.2.2.2.2.2.2.1, c.2.2.2.2.2.2.2) P e b g := by
  obtain ⟨a1, a2, a3, a4, a5⟩ := h
  obtain ⟨s1, s2, s3, s4, s5, s6⟩ := hs
  refine ⟨?_, ?_, ?_, ?_, ?_⟩
  · rw [hg b (by omega) (by omega), hg (b + 1) (by omega) (by omega), hg (b + 2) (by omega) (by omega), hg (b + 3) (by omega) (by omega), hg (b + 4) (by omega) (by omega), hg (b + 5) (by omega) (by omega), hg (b + 6) (by omega) (by omega), hg (b + 7) (by omega) (by omega)]
    refine ⟨a1.1, a1.2.1, a1.2.2.1, a1.2.2.2.1, a1.2.2.2.2.1, a1.2.2.2.2.2.1, a1.2.2.2.2.2.2.1, a1.2.2.2.2.2.2.2.1, ?_⟩
    show g (b + 8) = if c.2.2.1.2.2.1 c.1.2.2.1 = 0 then c.2.2.1.1 + 1 else c.2.2.1.1
    rw [if_pos h0]
    exact h5
  · intro k k1 k2
    rw [hg (b + 9 + k) (by omega) (by omega), hg (b + 14 + k) (by omega) (by omega), hg (b + 19 + k) (by omega) (by omega)]
    exact a2 k k1 k2
  · intro k i k1 k2 i1 i2 hp
    rw [hg _ (by omega) (by omega)]
    exact a3 k i k1 k2 i1 i2 hp
  · intro i i1 i2
    have i2' : i < c.2.1.1 := i2
    rw [hg _ (by omega) (by omega)]
    exact a4 i i1 i2'
  · intro i i1 i2
    have i2' : i < if c.2.2.1.2.2.1 c.1.2.2.1 = 0 then c.2.2.1.1 + 1 else c.2.2.1.1 := i2
    rw [if_pos h0] at i2'
    show g (b + 228 + 4 * i) = (if c.2.2.1.2.2.1 c.1.2.2.1 = 0 then z_u c.2.2.1.2.1 c.2.2.1.1 c.1.2.2.1 else c.2.2.1.2.1) i ∧ g (b + 228 + 4 * i + 1) = z_u c.2.2.1.2.2.1 c.1.2.2.1 (c.2.2.1.2.2.1 c.1.2.2.1 + 1) ((if c.2.2.1.2.2.1 c.1.2.2.1 = 0 then z_u c.2.2.1.2.1 c.2.2.1.1 c.1.2.2.1 else c.2.2.1.2.1) i) ∧ g (b + 228 + 4 * i + 2) = (if fb = 0 then c.2.2.1.2.2.2.1 else z_u c.2.2.1.2.2.2.1 c.1.2.2.1 (c.2.2.1.2.2.2.1 c.1.2.2.1 + 1)) ((if c.2.2.1.2.2.1 c.1.2.2.1 = 0 then z_u c.2.2.1.2.1 c.2.2.1.1 c.1.2.2.1 else c.2.2.1.2.1) i) ∧ g (b + 228 + 4 * i + 3) = (if c.2.2.1.2.2.1 c.1.2.2.1 = 0 then z_u c.2.2.1.2.2.2.2 c.1.2.2.1 c.1.1 else c.2.2.1.2.2.2.2) ((if c.2.2.1.2.2.1 c.1.2.2.1 = 0 then z_u c.2.2.1.2.1 c.2.2.1.1 c.1.2.2.1 else c.2.2.1.2.1) i)
    rw [if_pos h0, if_pos h0]
    by_cases hi : i = c.2.2.1.1
    · subst hi
      rw [z_u_same, z_u_same, z_u_same, h0]
      refine ⟨h1, h2, ?_, h4⟩
      rw [h3]
      have hf0 := (s3 c.1.2.2.1 hsh.1 hsh.2).2
      rw [h0] at hf0
      rcases hfb with rfl | rfl
      · rw [if_pos rfl]; omega
      · rw [if_neg (by omega), z_u_same]; omega
    · rw [z_u_ne hi]
      have hne : ¬ c.2.2.1.2.1 i = c.1.2.2.1 := fun q => by
        have := (s2 i i1 (by omega)).2
        rw [q, h0] at this
        omega
      rw [z_u_ne hne, z_u_ne hne, hg (b + 228 + 4 * i) (by omega) (by omega), hg (b + 228 + 4 * i + 1) (by omega) (by omega), hg (b + 228 + 4 * i + 2) (by omega) (by omega), hg (b + 228 + 4 * i + 3) (by omega) (by omega)]
      have h9 := a5 i i1 (by omega)
      refine ⟨h9.1, h9.2.1, ?_, h9.2.2.2⟩
      split
      · exact h9.2.2.1
      · rw [z_u_ne hne]; exact h9.2.2.1
/-- a number is seen again -/
theorem z_rl_old {c : z_Ct} {P : Int → Int → Prop} {e : Int → Int → Int} {b fb r : Int} {f g : Int → Int} (h : z_rl c P e b f) (hs : z_sok c.2.2.1 c.1.1) (hrn99 : c.2.1.1 ≤ 99) (hsh : 0 ≤ c.1.2.2.1 ∧ c.1.2.2.1 < 32) (hfb : fb = 0 ∨ fb = 1) (hr : 0 ≤ r ∧ r < c.2.2.1.1) (hrk : c.2.2.1.2.1 r = c.1.2.2.1)
    (h2 : g (b + 228 + 4 * r + 1) = f (b + 228 + 4 * r + 1) + 1) (h3 : g (b + 228 + 4 * r + 2) = f (b + 228 + 4 * r + 2) + fb)
    (hg : ∀ j : Int, ¬ j = b + 228 + 4 * r + 1 → ¬ j = b + 228 + 4 * r + 2 → g j = f j) : z_rl (c.1, c.2.1, (z_sad c.2.2.1 c.1.2.2.1 c.1.1 fb), c.2.2.2.1, c.2.2.2.2.1, c.2.2.2.2.2.1, c.2.2.2.2.2.2.1, c.2.2.2.2.2.2.2) P e b g := by
  obtain ⟨a1, a2, a3, a4, a5⟩ := h
  obtain ⟨s1, s2, s3, s4, s5, s6⟩ := hs
  have h0 : ¬ c.2.2.1.2.2.1 c.1.2.2.1 = 0 := fun q => by
    have := (s2 r hr.1 hr.2).2
    rw [hrk, q] at this
    omega
  refine ⟨?_, ?_, ?_, ?_, ?_⟩
  · rw [hg b (by omega) (by omega), hg (b + 1) (by omega) (by omega), hg (b + 2) (by omega) (by omega), hg (b + 3) (by omega) (by omega), hg (b + 4) (by omega) (by omega), hg (b + 5) (by omega) (by omega), hg (b + 6) (by omega) (by omega), hg (b + 7) (by omega) (by omega), hg (b + 8) (by omega) (by omega)]
    refine ⟨a1.1, a1.2.1, a1.2.2.1, a1.2.2.2.1, a1.2.2.2.2.1, a1.2.2.2.2.2.1, a1.2.2.2.2.2.2.1, a1.2.2.2.2.2.2.2.1, ?_⟩
    show f (b + 8) = if c.2.2.1.2.2.1 c.1.2.2.1 = 0 then c.2.2.1.1 + 1 else c.2.2.1.1
    rw [if_neg h0]
    exact a1.2.2.2.2.2.2.2.2
  · intro k k1 k2
    rw [hg (b + 9 + k) (by omega) (by omega), hg (b + 14 + k) (by omega) (by omega), hg (b + 19 + k) (by omega) (by omega)]
    exact a2 k k1 k2
  · intro k i k1 k2 i1 i2 hp
    rw [hg _ (by omega) (by omega)]
    exact a3 k i k1 k2 i1 i2 hp
  · intro i i1 i2
    have i2' : i < c.2.1.1 := i2
    rw [hg _ (by omega) (by omega)]
    exact a4 i i1 i2'
  · intro i i1 i2
    have i2' : i < if c.2.2.1.2.2.1 c.1.2.2.1 = 0 then c.2.2.1.1 + 1 else c.2.2.1.1 := i2
    rw [if_neg h0] at i2'
    show g (b + 228 + 4 * i) = (if c.2.2.1.2.2.1 c.1.2.2.1 = 0 then z_u c.2.2.1.2.1 c.2.2.1.1 c.1.2.2.1 else c.2.2.1.2.1) i ∧ g (b + 228 + 4 * i + 1) = z_u c.2.2.1.2.2.1 c.1.2.2.1 (c.2.2.1.2.2.1 c.1.2.2.1 + 1) ((if c.2.2.1.2.2.1 c.1.2.2.1 = 0 then z_u c.2.2.1.2.1 c.2.2.1.1 c.1.2.2.1 else c.2.2.1.2.1) i) ∧ g (b + 228 + 4 * i + 2) = (if fb = 0 then c.2.2.1.2.2.2.1 else z_u c.2.2.1.2.2.2.1 c.1.2.2.1 (c.2.2.1.2.2.2.1 c.1.2.2.1 + 1)) ((if c.2.2.1.2.2.1 c.1.2.2.1 = 0 then z_u c.2.2.1.2.1 c.2.2.1.1 c.1.2.2.1 else c.2.2.1.2.1) i) ∧ g (b + 228 + 4 * i + 3) = (if c.2.2.1.2.2.1 c.1.2.2.1 = 0 then z_u c.2.2.1.2.2.2.2 c.1.2.2.1 c.1.1 else c.2.2.1.2.2.2.2) ((if c.2.2.1.2.2.1 c.1.2.2.1 = 0 then z_u c.2.2.1.2.1 c.2.2.1.1 c.1.2.2.1 else c.2.2.1.2.1) i)
    rw [if_neg h0, if_neg h0]
    have h9 := a5 i i1 i2'
    by_cases hi : i = r
    · subst hi
      rw [hrk] at h9 ⊢
      rw [z_u_same, hg (b + 228 + 4 * i) (by omega) (by omega), hg (b + 228 + 4 * i + 3) (by omega) (by omega), h2, h3]
      refine ⟨h9.1, by rw [h9.2.1], ?_, h9.2.2.2⟩
      rw [h9.2.2.1]
      rcases hfb with rfl | rfl
      · rw [if_pos rfl]; omega
      · rw [if_neg (by omega), z_u_same]
    · have hne : ¬ c.2.2.1.2.1 i = c.1.2.2.1 := fun q => by
        rw [← hrk] at q
        rcases Int.lt_trichotomy i r with z | z | z
        · exact s5 i r i1 z hr.2 q
        · exact hi z
        · exact s5 r i hr.1 z i2' q.symm
      rw [z_u_ne hne, hg (b + 228 + 4 * i) (by omega) (by omega), hg (b + 228 + 4 * i + 1) (by omega) (by omega), hg (b + 228 + 4 * i + 2) (by omega) (by omega), hg (b + 228 + 4 * i + 3) (by omega) (by omega)]
      refine ⟨h9.1, h9.2.1, ?_, h9.2.2.2⟩
      split
      · exact h9.2.2.1
      · rw [z_u_ne hne]; exact h9.2.2.1
