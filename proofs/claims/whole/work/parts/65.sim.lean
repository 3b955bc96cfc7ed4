/-! ===== a test run: what is done and due at a time ===== -/
def y_C (g x : Int) : Int := if x ≤ 0 then 0 else (x - 1) / g + 1
def y_F (g : Int) (dl : Int → Int) : Nat → Int → Int
  | 0, x => y_C g x
  | k + 1, x => y_F g dl k (x - dl k) / 2
/-- before a clock -/
def y_pre (g st t T : Int) (dl dn du : Int → Int) : Prop := ∀ k : Nat, (k : Int) < st → dn k = y_F g dl k (T - dl k) ∧ ∀ i : Int, 0 ≤ i → i < 21 → du ((k : Int) * 21 + (t + i) % 21) = if i < dl k then y_F g dl k (T - dl k + i + 1) - y_F g dl k (T - dl k + i) else 0
/-- within a nanosecond, kk stages done -/
def y_in (g st t T : Int) (dl : Int → Int) (kk : Nat) (dn du : Int → Int) : Prop := ∀ k : Nat, (k : Int) < st → dn k = y_F g dl k (T - dl k + (if k < kk then 1 else 0)) ∧ ∀ i : Int, 0 ≤ i → i < 21 → du ((k : Int) * 21 + (t + i) % 21) = if k < kk ∧ i = 0 then 0 else if i < dl k ∨ (i = dl k ∧ k ≤ kk) then y_F g dl k (T - dl k + i + 1) - y_F g dl k (T - dl k + i) else 0
theorem y_F_0 {g : Int} {dl : Int → Int} (hdl : ∀ j : Int, 0 ≤ j → j < 5 → 1 ≤ dl j ∧ dl j ≤ 20) : ∀ (k : Nat), k ≤ 5 → ∀ x : Int, x ≤ 0 → y_F g dl k x = 0
  | 0, _, x, hx => if_pos hx
  | k + 1, hk, x, hx => by
    have := hdl k (by omega) (by omega)
    show y_F g dl k (x - dl k) / 2 = 0
    rw [y_F_0 hdl k (by omega) _ (by omega)]
    rfl
theorem y_pre_0 {g st t : Int} {dl : Int → Int} (hst : 1 ≤ st ∧ st ≤ 5) (hdl : ∀ j : Int, 0 ≤ j → j < 5 → 1 ≤ dl j ∧ dl j ≤ 20) : y_pre g st t 0 dl (fun _ => 0) (fun _ => 0) := by
  intro k hk
  have hd := hdl k (by omega) (by omega)
  refine ⟨(y_F_0 hdl k (by omega) _ (by omega)).symm, fun i i1 i2 => ?_⟩
  show (0 : Int) = _
  by_cases q : i < dl k
  · rw [if_pos q, y_F_0 hdl k (by omega) _ (by omega), y_F_0 hdl k (by omega) _ (by omega)]
    rfl
  · rw [if_neg q]
theorem y_C_1 {g n : Int} (hg : 1 ≤ g) (hn : 0 ≤ n) : y_C g (n * g + 1) - y_C g (n * g) = 1 := by
  have h0 : 0 ≤ n * g := Int.mul_nonneg hn (by omega)
  unfold y_C
  rw [if_neg (by omega), show n * g + 1 - 1 = n * g by omega, Int.mul_ediv_cancel _ (by omega)]
  by_cases q : n * g ≤ 0
  · rw [if_pos q]
    have : n = 0 := by
      by_cases z : n = 0
      · exact z
      · have := Int.mul_pos (show 0 < n by omega) (show 0 < g by omega); omega
    omega
  · rw [if_neg q]
    have e : (n * g - 1) / g = n - 1 := by
      rw [show n * g - 1 = (g - 1) + (n - 1) * g by rw [Int.sub_mul]; omega, Int.add_mul_ediv_right _ _ (by omega), Int.ediv_eq_zero_of_lt (by omega) (by omega)]
      omega
    omega
theorem y_C_2 {g n j : Int} (hg : 1 ≤ g) (hn : 0 ≤ n) (hj : 1 ≤ j ∧ j < g) : y_C g (n * g + j + 1) - y_C g (n * g + j) = 0 := by
  have h0 : 0 ≤ n * g := Int.mul_nonneg hn (by omega)
  unfold y_C
  rw [if_neg (by omega), if_neg (by omega), show n * g + j + 1 - 1 = j + n * g by omega, show n * g + j - 1 = (j - 1) + n * g by omega, Int.add_mul_ediv_right _ _ (by omega), Int.add_mul_ediv_right _ _ (by omega), Int.ediv_eq_zero_of_lt (by omega) (by omega), Int.ediv_eq_zero_of_lt (by omega) (by omega)]
  omega
theorem y_in_n {g st t T : Int} {dl dn du : Int → Int} (h : y_pre g st t T dl dn du) (hC : y_C g (T + 1) - y_C g T = 0) : y_in g st t T dl 0 dn du := by
  intro k hk
  obtain ⟨h1, h2⟩ := h k hk
  refine ⟨by rw [if_neg (by omega), Int.add_zero]; exact h1, fun i i1 i2 => ?_⟩
  rw [h2 i i1 i2, if_neg (show ¬ (k < 0 ∧ i = 0) by omega)]
  by_cases q : i < dl k
  · rw [if_pos q, if_pos (Or.inl q)]
  · rw [if_neg q]
    by_cases q2 : i = dl k ∧ k ≤ 0
    · rw [if_pos (Or.inr q2)]
      have hk0 : k = 0 := by omega
      subst hk0
      have e : i = dl ((0 : Nat) : Int) := q2.1
      rw [← e, show T - i + i + 1 = T + 1 by omega, show T - i + i = T by omega]
      show (0 : Int) = y_C g (T + 1) - y_C g T
      omega
    · rw [if_neg (by omega)]
theorem y_in_c {g st t T : Int} {dl dn du : Int → Int} (ht : 0 ≤ t) (hdl : ∀ j : Int, 0 ≤ j → j < 5 → 1 ≤ dl j ∧ dl j ≤ 20) (hst : st ≤ 5) (h : y_pre g st t T dl dn du) (hC : y_C g (T + 1) - y_C g T = 1) : y_in g st t T dl 0 dn (z_bg t dl 0 1 du) := by
  intro k hk
  obtain ⟨h1, h2⟩ := h k hk
  have hd0 := hdl 0 (by omega) (by omega)
  refine ⟨by rw [if_neg (by omega), Int.add_zero]; exact h1, fun i i1 i2 => ?_⟩
  rw [if_neg (by omega)]
  unfold z_bg
  by_cases q2 : k = 0 ∧ i = dl 0
  · obtain ⟨rfl, e⟩ := q2
    have h3 := h2 i i1 i2
    rw [if_neg (show ¬ i < dl ((0 : Nat) : Int) by show ¬ i < dl 0; omega)] at h3
    rw [if_pos (Or.inr ⟨e, by omega⟩), ← e]
    show z_u du (0 * 21 + (t + i) % 21) (du (0 * 21 + (t + i) % 21) + 1) (((0 : Nat) : Int) * 21 + (t + i) % 21) = _
    rw [show ((0 : Nat) : Int) * 21 = 0 * 21 from rfl, z_u_same]
    rw [show ((0 : Nat) : Int) * 21 = 0 * 21 from rfl] at h3
    rw [h3, show dl ((0 : Nat) : Int) = i from e.symm, show T - i + i + 1 = T + 1 by omega, show T - i + i = T by omega]
    show (0 : Int) + 1 = y_C g (T + 1) - y_C g T
    omega
  · have hne : ¬ (k : Int) * 21 + (t + i) % 21 = 0 * 21 + (t + dl 0) % 21 := by
      by_cases c : k = 0
      · have : ¬ i = dl 0 := fun z => q2 ⟨c, z⟩
        omega
      · omega
    rw [z_u_ne hne, h2 i i1 i2]
    by_cases q : i < dl k
    · rw [if_pos q, if_pos (Or.inl q)]
    · rw [if_neg q, if_neg (fun z => by
        rcases z with z | ⟨z1, z2⟩
        · exact q z
        · have hk0 : k = 0 := by omega
          subst hk0
          exact q2 ⟨rfl, z1⟩)]
theorem y_pre_n {g st t T : Int} {dl dn du : Int → Int} (hst : st ≤ 5) (hdl : ∀ j : Int, 0 ≤ j → j < 5 → 1 ≤ dl j ∧ dl j ≤ 20) (h : y_in g st t T dl st.toNat dn du) : y_pre g st (t + 1) (T + 1) dl dn du := by
  intro k hk
  obtain ⟨h1, h2⟩ := h k hk
  have hd := hdl k (by omega) (by omega)
  refine ⟨by rw [h1, if_pos (by omega)]; congr 1; omega, fun i i1 i2 => ?_⟩
  by_cases q : i = 20
  · have h3 := h2 0 (by omega) (by omega)
    rw [if_pos ⟨by omega, rfl⟩] at h3
    rw [if_neg (by omega), show (t + 1 + i) % 21 = (t + 0) % 21 by omega, h3]
  · have h3 := h2 (i + 1) (by omega) (by omega)
    rw [if_neg (by omega), show t + (i + 1) = t + 1 + i by omega] at h3
    rw [h3]
    by_cases q2 : i < dl k
    · rw [if_pos q2, if_pos (by omega), show T - dl k + (i + 1) + 1 = T + 1 - dl k + i + 1 by omega, show T - dl k + (i + 1) = T + 1 - dl k + i by omega]
    · rw [if_neg q2, if_neg (by omega)]
theorem y_in_s {g st t T : Int} {dl : Int → Int} {kk : Nat} {r : z_R} (ht : 0 ≤ t) (hst : st ≤ 5) (hdl : ∀ j : Int, 0 ≤ j → j < 5 → 1 ≤ dl j ∧ dl j ≤ 20) (hkk : (kk : Int) < st) (hbit : z_bit r.2.1 kk = r.2.2.2.1 kk % 2) (hnn : 0 ≤ r.2.2.2.2 (kk * 21 + t % 21)) (h : y_in g st t T dl kk r.2.2.2.1 r.2.2.2.2) : y_in g st t T dl (kk + 1) (z_tdS t st dl kk r).2.2.2.1 (z_tdS t st dl kk r).2.2.2.2 := by
  have hd := hdl kk (by omega) (by omega)
  obtain ⟨e1, e2⟩ := h kk hkk
  have e3 := e2 0 (by omega) (by omega)
  rw [if_neg (show ¬ (kk < kk ∧ (0 : Int) = 0) by omega), if_pos (Or.inl (by omega)), Int.add_zero, Int.add_zero] at e3
  rw [if_neg (show ¬ kk < kk by omega), Int.add_zero] at e1
  have hF : ∀ x : Int, y_F g dl (kk + 1) x = y_F g dl kk (x - dl kk) / 2 := fun _ => rfl
  have hb1 : y_F g dl (kk + 1) (T + 1) = y_F g dl kk (T - dl kk + 1) / 2 := by rw [hF]; congr 2; omega
  have hb0 : y_F g dl (kk + 1) T = y_F g dl kk (T - dl kk) / 2 := hF T
  generalize hm : r.2.2.2.2 (kk * 21 + t % 21) = m at *
  generalize ha : y_F g dl kk (T - dl kk) = a at *
  generalize hb : y_F g dl kk (T - dl kk + 1) = b at *
  -- what every stage but this one keeps
  have keep : ∀ (k : Nat) (i : Int), 0 ≤ i → ¬ (k = kk ∧ i = 0) → ¬ (k = kk + 1 ∧ i = dl ((kk + 1 : Nat) : Int)) → (if k < kk + 1 ∧ i = 0 then 0 else if i < dl k ∨ (i = dl k ∧ k ≤ kk + 1) then y_F g dl k (T - dl k + i + 1) - y_F g dl k (T - dl k + i) else 0) = (if k < kk ∧ i = 0 then (0 : Int) else if i < dl k ∨ (i = dl k ∧ k ≤ kk) then y_F g dl k (T - dl k + i + 1) - y_F g dl k (T - dl k + i) else 0) := by
    intro k i i1 c1 c2
    by_cases q1 : k < kk ∧ i = 0
    · rw [if_pos (show k < kk + 1 ∧ i = 0 by omega), if_pos q1]
    · rw [if_neg (show ¬ (k < kk + 1 ∧ i = 0) by omega), if_neg q1]
      by_cases q2 : i < dl k ∨ (i = dl k ∧ k ≤ kk)
      · rw [if_pos q2, if_pos (by rcases q2 with z | z; (· exact Or.inl z); (· exact Or.inr ⟨z.1, by omega⟩))]
      · rw [if_neg q2, if_neg (fun z => by
          rcases z with z | ⟨z1, z2⟩
          · exact q2 (Or.inl z)
          · by_cases q3 : k = kk + 1
            · subst q3; exact c2 ⟨rfl, z1⟩
            · exact q2 (Or.inr ⟨z1, by omega⟩))]
  have at1 : (if kk + 1 < kk + 1 ∧ dl ((kk + 1 : Nat) : Int) = 0 then (0 : Int) else if dl ((kk + 1 : Nat) : Int) < dl ((kk + 1 : Nat) : Int) ∨ (dl ((kk + 1 : Nat) : Int) = dl ((kk + 1 : Nat) : Int) ∧ kk + 1 ≤ kk + 1) then y_F g dl (kk + 1) (T - dl ((kk + 1 : Nat) : Int) + dl ((kk + 1 : Nat) : Int) + 1) - y_F g dl (kk + 1) (T - dl ((kk + 1 : Nat) : Int) + dl ((kk + 1 : Nat) : Int)) else 0) = b / 2 - a / 2 := by
    rw [if_neg (by omega), if_pos (Or.inr ⟨rfl, by omega⟩), show T - dl ((kk + 1 : Nat) : Int) + dl ((kk + 1 : Nat) : Int) = T by omega, hb1, hb0]
  have dnk : ∀ k : Nat, ¬ k = kk → (if k < kk + 1 then (1 : Int) else 0) = if k < kk then 1 else 0 := fun k c => by
    by_cases q : k < kk
    · rw [if_pos q, if_pos (by omega)]
    · rw [if_neg q, if_neg (by omega)]
  by_cases q : 0 < r.2.2.2.2 (kk * 21 + t % 21)
  · by_cases q2 : (kk : Int) + 1 < st
    · rw [z_tdS_1 q q2]
      dsimp only
      rw [hm]
      have hd1 := hdl ((kk : Int) + 1) (by omega) (by omega)
      intro k hk
      obtain ⟨f1, f2⟩ := h k hk
      refine ⟨?_, fun i i1 i2 => ?_⟩
      · by_cases c : k = kk
        · subst c
          rw [z_u_same, if_pos (by omega), hb]; omega
        · rw [z_u_ne (by omega), dnk k c]; exact f1
      · unfold z_bg
        rw [z_u_ne (show ¬ ((kk : Int) + 1) * 21 + (t + dl ((kk : Int) + 1)) % 21 = kk * 21 + t % 21 by omega)]
        by_cases c1 : k = kk ∧ i = 0
        · obtain ⟨rfl, rfl⟩ := c1
          rw [if_pos ⟨by omega, rfl⟩, z_u_ne (by omega), Int.add_zero, z_u_same]
        · by_cases c2 : k = kk + 1 ∧ i = dl ((kk + 1 : Nat) : Int)
          · obtain ⟨rfl, rfl⟩ := c2
            have f3 := f2 _ i1 i2
            rw [if_neg (show ¬ (kk + 1 < kk ∧ dl ((kk + 1 : Nat) : Int) = 0) by omega), if_neg (by omega)] at f3
            rw [at1, show ((kk + 1 : Nat) : Int) = (kk : Int) + 1 by omega, z_u_same]
            rw [show ((kk + 1 : Nat) : Int) = (kk : Int) + 1 by omega] at f3
            rw [f3]; omega
          · have n1 : ¬ (k : Int) * 21 + (t + i) % 21 = ((kk : Int) + 1) * 21 + (t + dl ((kk : Int) + 1)) % 21 := by
              by_cases c3 : k = kk + 1
              · have : ¬ i = dl ((kk : Int) + 1) := fun z => c2 ⟨c3, by rw [z]; congr 1⟩
                omega
              · omega
            rw [keep k i i1 c1 c2, ← f2 i i1 i2, z_u_ne n1, z_u_ne (by omega)]
    · rw [z_tdS_2 q q2]
      dsimp only
      rw [hm]
      intro k hk
      obtain ⟨f1, f2⟩ := h k hk
      refine ⟨?_, fun i i1 i2 => ?_⟩
      · by_cases c : k = kk
        · subst c
          rw [z_u_same, if_pos (by omega), hb]; omega
        · rw [z_u_ne (by omega), dnk k c]; exact f1
      · by_cases c1 : k = kk ∧ i = 0
        · obtain ⟨rfl, rfl⟩ := c1
          rw [if_pos ⟨by omega, rfl⟩, Int.add_zero, z_u_same]
        · rw [keep k i i1 c1 (by omega), ← f2 i i1 i2, z_u_ne (by omega)]
  · rw [z_tdS_3 q]
    have hab : a = b := by omega
    intro k hk
    obtain ⟨f1, f2⟩ := h k hk
    refine ⟨?_, fun i i1 i2 => ?_⟩
    · by_cases c : k = kk
      · subst c
        rw [if_pos (by omega), hb]; omega
      · rw [dnk k c]; exact f1
    · by_cases c1 : k = kk ∧ i = 0
      · obtain ⟨rfl, rfl⟩ := c1
        rw [if_pos ⟨by omega, rfl⟩, Int.add_zero]; omega
      · by_cases c2 : k = kk + 1 ∧ i = dl ((kk + 1 : Nat) : Int)
        · obtain ⟨rfl, rfl⟩ := c2
          have f3 := f2 _ i1 i2
          rw [if_neg (show ¬ (kk + 1 < kk ∧ dl ((kk + 1 : Nat) : Int) = 0) by omega), if_neg (by omega)] at f3
          rw [at1, f3]; omega
        · rw [keep k i i1 c1 c2]; exact f2 i i1 i2
