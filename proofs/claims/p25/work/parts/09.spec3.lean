/-! ===== the words of the pad ===== -/
/-- characters in a number: how many, -2 if one is wrong; from the rest u on, with m of them seen, n more places -/
def z_ch (u mm : Int) : Nat → Int
  | 0 => if mm = 0 then -2 else mm
  | n + 1 => if u = 0 then (if mm = 0 then -2 else mm) else if 33 ≤ u % 256 ∧ u % 256 ≤ 126 then z_ch (u / 256) (mm + 1) n else -2
theorem z_ch_0 {u mm : Int} {n : Nat} (h : u = 0 ∨ n = 0) : z_ch u mm n = if mm = 0 then -2 else mm := by
  cases n with
  | zero => rfl
  | succ n =>
    have h1 : u = 0 := by omega
    simp [z_ch, h1]
theorem z_ch_s {u mm : Int} {n m : Nat} (hn : n = m + 1) (hu : ¬ u = 0) (h : 33 ≤ u % 256 ∧ u % 256 ≤ 126) : z_ch u mm n = z_ch (u / 256) (mm + 1) m := by
  subst hn
  show (if u = 0 then _ else if 33 ≤ u % 256 ∧ u % 256 ≤ 126 then _ else _) = _
  rw [if_neg hu, if_pos h]
theorem z_ch_b {u mm : Int} {n m : Nat} (hn : n = m + 1) (hu : ¬ u = 0) (h : ¬ (33 ≤ u % 256 ∧ u % 256 ≤ 126)) : z_ch u mm n = -2 := by
  subst hn
  show (if u = 0 then _ else if 33 ≤ u % 256 ∧ u % 256 ≤ 126 then _ else _) = _
  rw [if_neg hu, if_neg h]
theorem z_ch_rng : ∀ (n : Nat) (u mm : Int), 0 ≤ mm → (z_ch u mm n = -2 ∨ (1 ≤ z_ch u mm n ∧ z_ch u mm n ≤ mm + n))
  | 0, u, mm, h => by
    show (if mm = 0 then (-2 : Int) else mm) = -2 ∨ (1 ≤ (if mm = 0 then (-2 : Int) else mm) ∧ (if mm = 0 then (-2 : Int) else mm) ≤ mm + ((0 : Nat) : Int))
    split <;> omega
  | n + 1, u, mm, h => by
    by_cases h0 : u = 0
    · rw [z_ch_0 (Or.inl h0)]
      split <;> omega
    · by_cases h1 : 33 ≤ u % 256 ∧ u % 256 ≤ 126
      · rw [z_ch_s (m := n) rfl h0 h1]
        have := z_ch_rng n (u / 256) (mm + 1) (by omega)
        omega
      · rw [z_ch_b (m := n) rfl h0 h1]
        omega
def z_apf (len mm u : Int) (sg : Int → Int) : Int → Int := fun j => if len ≤ j ∧ j < len + mm then u / z_p2 (8 * (len + mm - 1 - j)) % 256 else sg j
/-- put: the answer, the length, the characters -/
def z_ap (len : Int) (sg : Int → Int) (u : Int) : Int × Int × (Int → Int) :=
  if z_ch u 0 8 < 0 then (z_ch u 0 8, len, sg) else if 80 < len + z_ch u 0 8 then (-4, len, sg) else (len + z_ch u 0 8, len + z_ch u 0 8, z_apf len (z_ch u 0 8) u sg)
def z_al (x : Int) : Int := if x = 99 then 1 else if x = 116 then 2 else if x = 100 then 5 else if x = 114 then 4 else if x = 119 then 4 else 7
def z_af (x : Int) : Int := if 48 ≤ x ∧ x ≤ 57 then (if x = 48 then 4 else 3) else 7
def z_ao (x : Int) : Int := if x = 59 then 0 else 7
def z_pa (q x : Int) : Int :=
  if q = 0 then z_al x else if q = 1 then (if 48 ≤ x ∧ x ≤ 57 then z_af x else z_ao x) else if q = 2 then z_af x else if q = 3 then (if 48 ≤ x ∧ x ≤ 57 then 4 else z_ao x)
  else if q = 4 then z_ao x else if q = 5 then (if 48 ≤ x ∧ x ≤ 57 then 6 else 7) else if q = 6 then (if x = 61 then 2 else 7) else 7
theorem z_al_rng (x : Int) : 0 ≤ z_al x ∧ z_al x ≤ 7 := by unfold z_al; (repeat' split) <;> omega
theorem z_af_rng (x : Int) : 0 ≤ z_af x ∧ z_af x ≤ 7 := by unfold z_af; (repeat' split) <;> omega
theorem z_ao_rng (x : Int) : 0 ≤ z_ao x ∧ z_ao x ≤ 7 := by unfold z_ao; (repeat' split) <;> omega
theorem z_pa_rng (q x : Int) : 0 ≤ z_pa q x ∧ z_pa q x ≤ 7 := by
  have h1 := z_al_rng x
  have h2 := z_af_rng x
  have h3 := z_ao_rng x
  unfold z_pa; (repeat' split) <;> omega
/-- the fault of the rest of a text, from the place j on, n signs -/
def z_ff (len : Int) (sg : Int → Int) (j q : Int) : Nat → Int
  | 0 => if q = 1 ∨ q = 3 ∨ q = 4 then -6 else len
  | n + 1 => if z_pa q (sg j) = 7 then j else z_ff len sg (j + 1) (z_pa q (sg j)) n
theorem z_ff_s {len : Int} {sg : Int → Int} {j q : Int} {n m : Nat} (hn : n = m + 1) (h : ¬ z_pa q (sg j) = 7) : z_ff len sg j q n = z_ff len sg (j + 1) (z_pa q (sg j)) m := by
  subst hn
  show (if z_pa q (sg j) = 7 then _ else _) = _
  rw [if_neg h]
theorem z_ff_b {len : Int} {sg : Int → Int} {j q : Int} {n m : Nat} (hn : n = m + 1) (h : z_pa q (sg j) = 7) : z_ff len sg j q n = j := by
  subst hn
  show (if z_pa q (sg j) = 7 then _ else _) = _
  rw [if_pos h]
def z_sg (len : Int) (sg : Int → Int) (k : Int) : Int := if 0 ≤ k ∧ k < len then sg k else 0
/-- the number at a place: its first two digits -/
def z_nm (len : Int) (sg : Int → Int) (k : Int) : Int :=
  if 48 ≤ z_sg len sg k ∧ z_sg len sg k ≤ 57 then (if 48 ≤ z_sg len sg (k + 1) ∧ z_sg len sg (k + 1) ≤ 57 then (z_sg len sg k - 48) * 10 + (z_sg len sg (k + 1) - 48) else z_sg len sg k - 48) else 0
def z_oa (len : Int) (sg : Int → Int) (k : Int) : Int :=
  if 0 < k ∧ ¬ z_sg len sg (k - 1) = 59 then 0 else if z_sg len sg k = 99 ∧ (48 ≤ z_sg len sg (k + 1) ∧ z_sg len sg (k + 1) ≤ 57) then z_nm len sg (k + 1) else 1
theorem z_sg_rng {len : Int} {sg : Int → Int} (h : ∀ i : Int, 0 ≤ i → i < len → 0 ≤ sg i ∧ sg i < 256) (k : Int) : 0 ≤ z_sg len sg k ∧ z_sg len sg k < 256 := by
  unfold z_sg
  split
  · rename_i q
    exact h k q.1 q.2
  · omega
