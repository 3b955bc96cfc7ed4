/-! ===== words of the specification: powers, bits, iterations, sums ===== -/
def z_p2 (k : Int) : Int := 2 ^ k.toNat
def z_bit (x k : Int) : Int := x / z_p2 k % 2
def z_xr (a b : Int) : Int := ((a.toNat ^^^ b.toNat : Nat) : Int)
def z_it {α : Type} (f : Int → α → α) (a : α) : Nat → α
  | 0 => a
  | n + 1 => f (n : Int) (z_it f a n)
theorem z_it_next {α : Type} (f : Int → α → α) (a : α) {k : Int} (h : 0 ≤ k) : z_it f a (k + 1).toNat = f k (z_it f a k.toNat) := by
  obtain ⟨n, rfl⟩ := Int.eq_ofNat_of_zero_le h
  rfl
theorem z_it_zero {α : Type} (f : Int → α → α) (a : α) : z_it f a (0 : Int).toNat = a := rfl
def z_fst (f : Int → Int) (j : Int) : Nat → Int
  | 0 => -6
  | n + 1 => if 0 < f j then j else z_fst f (j + 1) n
/-- from j on, n places: where the first positive one is -/
theorem z_fst_pos {f : Int → Int} {j : Int} {n : Nat} (hn : 0 < n) (h : 0 < f j) : z_fst f j n = j := by
  obtain ⟨m, rfl⟩ := Nat.exists_eq_succ_of_ne_zero (by omega : n ≠ 0)
  simp [z_fst, h]
theorem z_fst_neg {f : Int → Int} {j : Int} {n m : Nat} (hn : n = m + 1) (h : ¬ 0 < f j) : z_fst f j n = z_fst f (j + 1) m := by
  subst hn
  simp [z_fst, h]
theorem z_dshr : ∀ x : Nat, x < 64 → ∀ k : Nat, k < 6 → Int32.ofInt (x : Int) >>> (Int32.ofInt (k : Int) &&& 31) = Int32.ofInt ((x / 2 ^ k : Nat) : Int) := by decide +kernel
theorem z_p2_nat (k : Nat) : z_p2 (k : Int) = ((2 ^ k : Nat) : Int) := by simp [z_p2]
theorem z_shr {x k : Int} (hx : 0 ≤ x ∧ x < 64) (hk : 0 ≤ k ∧ k < 6) : z_I x >>> (z_I k &&& 31) = z_I (x / z_p2 k) := by
  obtain ⟨a, rfl⟩ := Int.eq_ofNat_of_zero_le hx.1
  obtain ⟨b, rfl⟩ := Int.eq_ofNat_of_zero_le hk.1
  rw [z_p2_nat]
  exact z_dshr a (by omega) b (by omega)
theorem z_dshl : ∀ k : Nat, k < 32 → Int32.ofInt 1 <<< (Int32.ofInt (k : Int) &&& 31) = Int32.ofInt ((2 ^ k : Nat) : Int) := by decide +kernel
theorem z_shl1 {k : Int} (hk : 0 ≤ k ∧ k < 32) : z_I 1 <<< (z_I k &&& 31) = z_I (z_p2 k) := by
  obtain ⟨b, rfl⟩ := Int.eq_ofNat_of_zero_le hk.1
  rw [z_p2_nat]
  exact z_dshl b (by omega)
theorem z_dshb : ∀ c : Nat, c < 2 → ∀ k : Nat, k < 5 → Int32.ofInt (c : Int) <<< (Int32.ofInt (k : Int) &&& 31) = Int32.ofInt ((c * 2 ^ k : Nat) : Int) := by decide +kernel
theorem z_shlb {c k : Int} (hc : 0 ≤ c ∧ c < 2) (hk : 0 ≤ k ∧ k < 5) : z_I c <<< (z_I k &&& 31) = z_I (c * z_p2 k) := by
  obtain ⟨a, rfl⟩ := Int.eq_ofNat_of_zero_le hc.1
  obtain ⟨b, rfl⟩ := Int.eq_ofNat_of_zero_le hk.1
  rw [z_p2_nat, show ((a : Int) * ((2 ^ b : Nat) : Int)) = ((a * 2 ^ b : Nat) : Int) by push_cast; rfl]
  exact z_dshb a (by omega) b (by omega)
theorem z_dxor : ∀ k : Nat, k < 5 → Int32.ofInt ((2 ^ k : Nat) : Int) ^^^ Int32.ofInt (-1) = Int32.ofInt (-1 - ((2 ^ k : Nat) : Int)) := by decide +kernel
theorem z_xorm {k : Int} (hk : 0 ≤ k ∧ k < 5) : z_I (z_p2 k) ^^^ z_I (-1) = z_I (-1 - z_p2 k) := by
  obtain ⟨b, rfl⟩ := Int.eq_ofNat_of_zero_le hk.1
  rw [z_p2_nat]
  exact z_dxor b (by omega)
theorem z_dand : ∀ x : Nat, x < 32 → ∀ k : Nat, k < 5 → Int32.ofInt (x : Int) &&& Int32.ofInt (-1 - ((2 ^ k : Nat) : Int)) = Int32.ofInt ((x : Int) - ((x : Int) / ((2 ^ k : Nat) : Int)) % 2 * ((2 ^ k : Nat) : Int)) := by decide +kernel
theorem z_andm {x k : Int} (hx : 0 ≤ x ∧ x < 32) (hk : 0 ≤ k ∧ k < 5) : z_I x &&& z_I (-1 - z_p2 k) = z_I (x - z_bit x k * z_p2 k) := by
  obtain ⟨a, rfl⟩ := Int.eq_ofNat_of_zero_le hx.1
  obtain ⟨b, rfl⟩ := Int.eq_ofNat_of_zero_le hk.1
  unfold z_bit
  rw [z_p2_nat]
  exact z_dand a (by omega) b (by omega)
theorem z_dor : ∀ x : Nat, x < 32 → ∀ k : Nat, k < 5 → ∀ c : Nat, c < 2 → Int32.ofInt ((x : Int) - ((x : Int) / ((2 ^ k : Nat) : Int)) % 2 * ((2 ^ k : Nat) : Int)) ||| Int32.ofInt ((c : Int) * ((2 ^ k : Nat) : Int)) = Int32.ofInt ((x : Int) - ((x : Int) / ((2 ^ k : Nat) : Int)) % 2 * ((2 ^ k : Nat) : Int) + (c : Int) * ((2 ^ k : Nat) : Int)) := by decide +kernel
theorem z_orb {x k c : Int} (hx : 0 ≤ x ∧ x < 32) (hk : 0 ≤ k ∧ k < 5) (hc : 0 ≤ c ∧ c < 2) : z_I (x - z_bit x k * z_p2 k) ||| z_I (c * z_p2 k) = z_I (x - z_bit x k * z_p2 k + c * z_p2 k) := by
  obtain ⟨a, rfl⟩ := Int.eq_ofNat_of_zero_le hx.1
  obtain ⟨b, rfl⟩ := Int.eq_ofNat_of_zero_le hk.1
  obtain ⟨d, rfl⟩ := Int.eq_ofNat_of_zero_le hc.1
  unfold z_bit
  rw [z_p2_nat]
  exact z_dor a (by omega) b (by omega) d (by omega)
theorem z_dsh : ∀ x : Nat, x < 32 → ∀ k : Nat, k < 5 → ∀ c : Nat, c < 2 → 0 ≤ (x : Int) - ((x : Int) / ((2 ^ k : Nat) : Int)) % 2 * ((2 ^ k : Nat) : Int) + (c : Int) * ((2 ^ k : Nat) : Int) ∧ (x : Int) - ((x : Int) / ((2 ^ k : Nat) : Int)) % 2 * ((2 ^ k : Nat) : Int) + (c : Int) * ((2 ^ k : Nat) : Int) < 32 := by decide +kernel
theorem z_shr32 {x k c : Int} (hx : 0 ≤ x ∧ x < 32) (hk : 0 ≤ k ∧ k < 5) (hc : 0 ≤ c ∧ c < 2) : 0 ≤ x - z_bit x k * z_p2 k + c * z_p2 k ∧ x - z_bit x k * z_p2 k + c * z_p2 k < 32 := by
  obtain ⟨a, rfl⟩ := Int.eq_ofNat_of_zero_le hx.1
  obtain ⟨b, rfl⟩ := Int.eq_ofNat_of_zero_le hk.1
  obtain ⟨d, rfl⟩ := Int.eq_ofNat_of_zero_le hc.1
  unfold z_bit
  rw [z_p2_nat]
  exact z_dsh a (by omega) b (by omega) d (by omega)
/-- an int that isn't below 0, as a natural number's -/
theorem z_I_nat (n : Nat) : z_I (n : Int) = Int32.ofNat n := Int32.ofInt_eq_ofNat
theorem z_andp {x k : Int} (hx : 0 ≤ x ∧ x < 2147483648) (hk : 0 ≤ k ∧ k < 31) : z_I x &&& z_I (z_p2 k - 1) = z_I (x % z_p2 k) := by
  obtain ⟨a, rfl⟩ := Int.eq_ofNat_of_zero_le hx.1
  obtain ⟨b, rfl⟩ := Int.eq_ofNat_of_zero_le hk.1
  rw [z_p2_nat]
  have h1 : 0 < 2 ^ b := Nat.two_pow_pos b
  have h2 : 2 ^ b ≤ 2 ^ 30 := Nat.pow_le_pow_right (by omega) (by omega)
  rw [show (((2 ^ b : Nat) : Int) - 1) = ((2 ^ b - 1 : Nat) : Int) by omega, show ((a : Int) % ((2 ^ b : Nat) : Int)) = ((a % 2 ^ b : Nat) : Int) by push_cast; rfl]
  rw [z_I_nat, z_I_nat, z_I_nat]
  apply Int32.toBitVec.inj
  rw [Int32.toBitVec_and, Int32.toBitVec_ofNat', Int32.toBitVec_ofNat', Int32.toBitVec_ofNat']
  apply BitVec.eq_of_toNat_eq
  rw [BitVec.toNat_and, BitVec.toNat_ofNat, BitVec.toNat_ofNat, BitVec.toNat_ofNat]
  rw [Nat.mod_eq_of_lt (by omega : a < 2 ^ 32), Nat.mod_eq_of_lt (by omega : 2 ^ b - 1 < 2 ^ 32), Nat.and_two_pow_sub_one_eq_mod]
  have h3 : a % 2 ^ b < 2 ^ 32 := Nat.lt_of_le_of_lt (Nat.mod_le _ _) (by omega)
  rw [Nat.mod_eq_of_lt h3]
theorem z_and1 {x : Int} (hx : 0 ≤ x ∧ x < 2147483648) : z_I x &&& z_I 1 = z_I (x % 2) := z_andp (k := 1) hx (by omega)
theorem z_xor {a b : Int} (ha : 0 ≤ a ∧ a < 2147483648) (hb : 0 ≤ b ∧ b < 2147483648) : z_I a ^^^ z_I b = z_I (z_xr a b) := by
  obtain ⟨x, rfl⟩ := Int.eq_ofNat_of_zero_le ha.1
  obtain ⟨y, rfl⟩ := Int.eq_ofNat_of_zero_le hb.1
  unfold z_xr
  rw [Int.toNat_natCast, Int.toNat_natCast, z_I_nat, z_I_nat, z_I_nat]
  apply Int32.toBitVec.inj
  rw [Int32.toBitVec_xor, Int32.toBitVec_ofNat', Int32.toBitVec_ofNat', Int32.toBitVec_ofNat']
  apply BitVec.eq_of_toNat_eq
  have h := Nat.xor_lt_two_pow (x := x) (y := y) (n := 31) (by omega) (by omega)
  rw [BitVec.toNat_xor, BitVec.toNat_ofNat, BitVec.toNat_ofNat, BitVec.toNat_ofNat]
  rw [Nat.mod_eq_of_lt (by omega : x < 2 ^ 32), Nat.mod_eq_of_lt (by omega : y < 2 ^ 32), Nat.mod_eq_of_lt (by omega)]
theorem z_dxr : ∀ a : Nat, a < 33 → ∀ b : Nat, b < 33 → ∀ k : Nat, k < 5 → ((a ^^^ b) < 64 ∧ (((a ^^^ b) / 2 ^ k % 2 = 0) ↔ (a / 2 ^ k % 2 = b / 2 ^ k % 2))) := by decide +kernel
theorem z_xrb {a b k : Int} (ha : 0 ≤ a ∧ a < 33) (hb : 0 ≤ b ∧ b < 33) (hk : 0 ≤ k ∧ k < 5) : (0 ≤ z_xr a b ∧ z_xr a b < 64) ∧ (z_xr a b / z_p2 k % 2 = 0 ↔ z_bit a k = z_bit b k) := by
  obtain ⟨x, rfl⟩ := Int.eq_ofNat_of_zero_le ha.1
  obtain ⟨y, rfl⟩ := Int.eq_ofNat_of_zero_le hb.1
  obtain ⟨n, rfl⟩ := Int.eq_ofNat_of_zero_le hk.1
  unfold z_xr z_bit
  rw [z_p2_nat, Int.toNat_natCast, Int.toNat_natCast]
  obtain ⟨h1, h2⟩ := z_dxr x (by omega) y (by omega) n (by omega)
  refine ⟨by omega, ?_⟩
  constructor
  · intro h
    have h3 := h2.mp (by exact_mod_cast h)
    exact_mod_cast h3
  · intro h
    have h3 := h2.mpr (by exact_mod_cast h)
    exact_mod_cast h3
theorem z_bit01 (x k : Int) : z_bit x k = 0 ∨ z_bit x k = 1 := by
  unfold z_bit
  omega
