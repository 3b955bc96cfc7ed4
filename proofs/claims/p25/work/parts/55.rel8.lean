/-! ===== what if: until all is quiet, what shows, the tests ===== -/
/-- how long until all is through, at most -/
def z_pot (t : Int) (dl du : Int → Int) (M : Int) : Prop := ∀ k i : Int, 0 ≤ k → k < 5 → 0 ≤ i → i < 21 → 0 < du (k * 21 + (t + i) % 21) → i + z_S dl (k + 1) (4 - k).toNat ≤ M
theorem z_S_rng {f : Int → Int} {a lo hi : Int} : ∀ n : Nat, (∀ i : Int, 0 ≤ i → i < n → lo ≤ f (a + i) ∧ f (a + i) ≤ hi) → (n : Int) * lo ≤ z_S f a n ∧ z_S f a n ≤ (n : Int) * hi
  | 0, _ => by
    show ((0 : Nat) : Int) * lo ≤ (0 : Int) ∧ (0 : Int) ≤ ((0 : Nat) : Int) * hi
    simp
  | n + 1, h => by
    have h1 := z_S_rng n (fun i i1 i2 => h i i1 (by omega))
    have h2 := h n (by omega) (by omega)
    rw [z_S_succ, show ((n + 1 : Nat) : Int) = (n : Int) + 1 by omega, Int.add_mul, Int.add_mul, Int.one_mul, Int.one_mul]
    omega
theorem z_pot_0 {t : Int} {dl du : Int → Int} (hdl : ∀ j : Int, 0 ≤ j → j < 5 → 1 ≤ dl j ∧ dl j ≤ 20) : z_pot t dl du 100 := by
  intro k i k1 k2 i1 i2 _
  have h := (z_S_rng (f := dl) (a := k + 1) (lo := 0) (hi := 20) (4 - k).toNat (fun j j1 j2 => by have := hdl (k + 1 + j) (by omega) (by omega); omega)).2
  omega
theorem z_pot_s {t st M : Int} {dl : Int → Int} {k : Int} {r : z_R} (ht : 0 ≤ t) (hdl : ∀ j : Int, 0 ≤ j → j < 5 → 1 ≤ dl j ∧ dl j ≤ 20) (hk : 0 ≤ k ∧ k < st) (hst : st ≤ 5) (h : z_pot t dl r.2.2.2.2 M) : z_pot t dl (z_tdS t st dl k r).2.2.2.2 M := by
  intro j i j1 j2 i1 i2 hp
  by_cases q : 0 < r.2.2.2.2 (k * 21 + t % 21)
  · by_cases q2 : k + 1 < st
    · rw [z_tdS_1 q q2] at hp
      dsimp only at hp
      unfold z_bg at hp
      have hd := hdl (k + 1) (by omega) (by omega)
      by_cases q3 : j = k + 1 ∧ i = dl (k + 1)
      · have h0 := h k 0 hk.1 (by omega) (by omega) (by omega) (by rw [Int.add_zero]; exact q)
        have h1 := z_S_front dl (k + 1) (4 - (k + 1)).toNat
        rw [show (4 - (k + 1)).toNat + 1 = (4 - k).toNat by omega] at h1
        rw [q3.1, q3.2]
        omega
      · rw [z_u_ne (by omega)] at hp
        by_cases q4 : j * 21 + (t + i) % 21 = k * 21 + t % 21
        · rw [q4, z_u_same] at hp; omega
        · rw [z_u_ne q4] at hp
          exact h j i j1 j2 i1 i2 hp
    · rw [z_tdS_2 q q2] at hp
      dsimp only at hp
      by_cases q4 : j * 21 + (t + i) % 21 = k * 21 + t % 21
      · rw [q4, z_u_same] at hp; omega
      · rw [z_u_ne q4] at hp
        exact h j i j1 j2 i1 i2 hp
  · rw [z_tdS_3 q] at hp
    exact h j i j1 j2 i1 i2 hp
theorem z_pot_n {t st M : Int} {dl : Int → Int} {r0 : z_R} (ht : 0 ≤ t) (hdl : ∀ j : Int, 0 ≤ j → j < 5 → 1 ≤ dl j ∧ dl j ≤ 20) (hst : st ≤ 5) (h : z_pot t dl r0.2.2.2.2 M) : ∀ n : Nat, (n : Int) ≤ st → z_pot t dl (z_it (z_tdS t st dl) r0 n).2.2.2.2 M
  | 0, _ => h
  | n + 1, hn => z_pot_s ht hdl (by omega) hst (z_pot_n ht hdl hst h n (by omega))
theorem z_pot_nano {ct : z_Ct} {M : Int} (hok : z_ok ct) (h : z_pot ct.1.1 ct.1.2.2.2.2.1 ct.1.2.2.2.2.2.2 M) : z_pot (z_nano ct).1.1 (z_nano ct).1.2.2.2.2.1 (z_nano ct).1.2.2.2.2.2.2 (M - 1) := by
  have hw := hok.1
  have hst := hw.2.1
  have ht := hw.1
  have hz := z_td_zero hok
  have h1 := z_pot_n (st := ct.1.2.1) (r0 := (0, ct.1.2.2.1, ct.1.2.2.2.1, ct.1.2.2.2.2.2.1, ct.1.2.2.2.2.2.2)) ht hw.2.2.2.1 hst.2 h ct.1.2.1.toNat (by omega)
  intro k i k1 k2 i1 i2 hp
  have hp' : 0 < (z_tdR ct).2.2.2.2 (k * 21 + (ct.1.1 + 1 + i) % 21) := hp
  show i + z_S ct.1.2.2.2.2.1 (k + 1) (4 - k).toNat ≤ M - 1
  by_cases q : i = 20
  · have h2 := hz k k1 k2
    rw [show (ct.1.1 + 1 + i) % 21 = ct.1.1 % 21 by omega] at hp'
    omega
  · have h3 := h1 k (i + 1) k1 k2 (by omega) (by omega) (by rw [show ct.1.1 + (i + 1) = ct.1.1 + 1 + i by omega]; exact hp')
    omega
theorem z_pot_pos {ct : z_Ct} {M : Int} (hok : z_ok ct) (h : z_pot ct.1.1 ct.1.2.2.2.2.1 ct.1.2.2.2.2.2.2 M) (ho : 0 < ct.1.2.2.2.1) : 0 ≤ M := by
  have hw := hok.1
  obtain ⟨ht, hst, hsh, hdl, hdu, hdn, hB, htot, hbit, hzero, how⟩ := hw
  by_cases q : 0 ≤ M
  · exact q
  · have h2 : z_S ct.1.2.2.2.2.2.2 0 105 = 0 := by
      refine z_S_zero 105 (fun i i1 i2 => ?_)
      have h3 := hdu (0 + i) (by omega) (by omega)
      by_cases q2 : 0 < ct.1.2.2.2.2.2.2 (0 + i)
      · have h4 := h (i / 21) ((i % 21 - ct.1.1 % 21) % 21) (by omega) (by omega) (by omega) (by omega) (by rw [show i / 21 * 21 + (ct.1.1 + (i % 21 - ct.1.1 % 21) % 21) % 21 = 0 + i by omega]; exact q2)
        have h5 := (z_S_rng (f := ct.1.2.2.2.2.1) (a := i / 21 + 1) (lo := 0) (hi := 20) (4 - i / 21).toNat (fun j j1 j2 => by have := hdl (i / 21 + 1 + j) (by omega) (by omega); omega)).1
        omega
      · omega
    omega
theorem z_wn_nano (ct : z_Ct) : z_wn ct.1 = (z_nano ct).1 := rfl
theorem z_wn_ps (ct : z_Ct) : ∀ n : Nat, z_it (fun _ w => z_wn w) ct.1 n = (z_ps ct n).1.1
  | 0 => rfl
  | n + 1 => by
    show z_wn (z_it (fun _ w => z_wn w) ct.1 n) = (z_nano (z_ps ct n).1).1
    rw [z_wn_ps ct n]
    rfl
/-- the row beside -/
theorem z_cop {ct : z_Ct} {f u : Int → Int} (h : z_rel ct 0 f) (hok : z_ok ct) (hu : ∀ j : Int, u j = if 356 ≤ j ∧ j < 712 then f (j - 356) else f j) : z_rel ct 356 u ∧ ∀ j : Int, j < 356 → u j = f j :=
  ⟨z_rel_shift h (by have := hok.2.1.1; omega) (by have := hok.2.2.1.1; omega) (fun j j1 j2 => by rw [hu, if_pos (by omega)]; congr 1; omega), fun j hj => by rw [hu, if_neg (by omega)]⟩
theorem z_rel_fr {ct : z_Ct} {f u : Int → Int} (h : z_rel ct 0 f) (hok : z_ok ct) (hu : ∀ j : Int, j < 356 → u j = f j) : z_rel ct 0 u :=
  z_rel_shift h (by have := hok.2.1.1; omega) (by have := hok.2.2.1.1; omega) (fun j j1 j2 => by rw [hu _ (by omega)])
/-- a test: the counter, how many readings were wrong -/
def z_wS (g : Int) (q : z_Ct × Int) : z_Ct × Int := ((z_ps (z_take q.1) g.toNat).1, q.2 + (if (z_ps (z_take q.1) g.toNat).1.1.2.2.1 = (z_ps (z_take q.1) g.toNat).1.2.2.2.2.1 then 0 else 1))
def z_wt (ct : z_Ct) (g : Int) (n : Nat) : z_Ct × Int := z_it (fun _ q => z_wS g q) (z_anew ct ct.1.2.1, 0) n
theorem z_wt_s (ct : z_Ct) (g : Int) (n : Nat) : (z_wt ct g (n + 1)).2 = (z_wt ct g n).2 + (if (z_ps (z_take (z_wt ct g n).1) g.toNat).1.1.2.2.1 = (z_ps (z_take (z_wt ct g n).1) g.toNat).1.2.2.2.2.1 then 0 else 1) := rfl
def z_wc (st : Int) (dl : Int → Int) (g : Int) : Int := z_it (fun j a => if z_rt dl (j + 1) g 0 0 st.toNat = 0 then a + 1 else a) 0 (z_p2 st).toNat
theorem z_ps_st {ct : z_Ct} : ∀ n : Nat, (z_ps ct n).1.1.2.1 = ct.1.2.1 ∧ (z_ps ct n).1.1.2.2.2.2.1 = ct.1.2.2.2.2.1
  | 0 => ⟨rfl, rfl⟩
  | n + 1 => z_ps_st n
theorem z_wt_ok {ct : z_Ct} {g : Int} (h : z_ok ct) (hg : 1 ≤ g ∧ g ≤ 50) (ht : ct.1.1 ≤ 100000) : ∀ n : Nat, n ≤ 32 → z_ok (z_wt ct g n).1 ∧ (z_wt ct g n).1.1.2.1 = ct.1.2.1 ∧ (z_wt ct g n).1.1.2.2.2.2.1 = ct.1.2.2.2.2.1 ∧ (z_wt ct g n).1.1.1 = ct.1.1 + n * g ∧ (z_wt ct g n).1.2.2.2.2.2.1 < (z_wt ct g n).1.1.1 ∧ (z_wt ct g n).1.1.1 ≤ ct.1.1 + 50 * n ∧ (0 ≤ (z_wt ct g n).2 ∧ (z_wt ct g n).2 ≤ n)
  | 0, _ => by
    have hst := h.1.2.1
    have h1 := z_ok_anew h hst
    have ht0 := h.1.1
    refine ⟨h1, rfl, rfl, ?_, ?_, ?_, ?_⟩
    · show ct.1.1 = ct.1.1 + ((0 : Nat) : Int) * g; simp
    · show (-1 : Int) < ct.1.1; omega
    · show ct.1.1 ≤ ct.1.1 + 50 * ((0 : Nat) : Int); omega
    · show (0 : Int) ≤ 0 ∧ (0 : Int) ≤ ((0 : Nat) : Int); omega
  | n + 1, hn => by
    obtain ⟨h1, h2, h3, h4, h5, h6, h7⟩ := z_wt_ok h hg ht n (by omega)
    have h8 := z_ok_take h1 (by omega)
    obtain ⟨a1, a2, a3, a4, a5⟩ := z_ps_aux h8 g.toNat
    obtain ⟨b1, b2⟩ := z_ps_st (ct := z_take (z_wt ct g n).1) g.toNat
    have e1 : (z_take (z_wt ct g n).1).1.1 = (z_wt ct g n).1.1.1 := rfl
    have e2 : (z_take (z_wt ct g n).1).2.2.2.2.2.1 = (z_wt ct g n).1.1.1 := rfl
    have e3 : (z_wt ct g (n + 1)).1 = (z_ps (z_take (z_wt ct g n).1) g.toNat).1 := rfl
    have e4 : (z_wt ct g (n + 1)).2 = (z_wt ct g n).2 + (if (z_ps (z_take (z_wt ct g n).1) g.toNat).1.1.2.2.1 = (z_ps (z_take (z_wt ct g n).1) g.toNat).1.2.2.2.2.1 then 0 else 1) := rfl
    rw [e3, e4]
    refine ⟨a1, by rw [b1]; exact h2, by rw [b2]; exact h3, ?_, ?_, ?_, ?_⟩
    · rw [a2, e1, h4, show ((n + 1 : Nat) : Int) = (n : Int) + 1 by omega, Int.add_mul, Int.one_mul]; omega
    · rw [a2, a3, e1, e2]; omega
    · rw [a2, e1]; omega
    · split <;> omega
/-! ===== a test run: what is done and due at a time ===== -/
def y_C (g x : Int) : Int := if x ≤ 0 then 0 else (x - 1) / g + 1
def y_F (g : Int) (dl : Int → Int) : Nat → Int → Int
  | 0, x => y_C g x
  | k + 1, x => y_F g dl k (x - dl k) / 2
/-- before a clock -/
def y_pre (g st t T : Int) (dl dn du : Int → Int) : Prop := ∀ k : Nat, (k : Int) < st → dn k = y_F g dl k (T - dl k) ∧ ∀ i : Int, 0 ≤ i → i < 21 → du ((k : Int) * 21 + (t + i) % 21) = if i < dl k then y_F g dl k (T - dl k + i + 1) - y_F g dl k (T - dl k + i) else 0
/-- within a nanosecond, kk stages done -/
def y_in (g st t T : Int) (dl : Int → Int) (kk : Nat) (dn du : Int → Int) : Prop := ∀ k : Nat, (k : Int) < st → dn k = y_F g dl k (T - dl k + (if k < kk then 1 else 0)) ∧ ∀ i : Int, 0 ≤ i → i < 21 → du ((k : Int) * 21 + (t + i) % 21) = if k < kk ∧ i = 0 then 0 else if i < dl k ∨ (i = dl k ∧ k ≤ kk) then y_F g dl k (T - dl k + i + 1) - y_F g dl k (T - dl k + i) else 0
theorem y_F_0 {g : Int} {dl : Int → Int} (hdl : ∀ j : Int, 0 ≤ j → j < 5 → 1 ≤ dl j ∧ dl j ≤ 20) : ∀ (k : Nat), k ≤ 5 → ∀ x : Int, x ≤ 0 → y_F g dl k x = 0
  | 0, _, x, hx => if_pos hx
  | k + 1, hk, x, hx => by
    have := hdl k (by omega) (by omega)
    show y_F g dl k (x - dl k) / 2 = 0
    rw [y_F_0 hdl k (by omega) _ (by omega)]
    rfl
theorem y_pre_0 {g st t : Int} {dl : Int → Int} (hst : 1 ≤ st ∧ st ≤ 5) (hdl : ∀ j : Int, 0 ≤ j → j < 5 → 1 ≤ dl j ∧ dl j ≤ 20) : y_pre g st t 0 dl (fun _ => 0) (fun _ => 0) := by
  intro k hk
  have hd := hdl k (by omega) (by omega)
  refine ⟨(y_F_0 hdl k (by omega) _ (by omega)).symm, fun i i1 i2 => ?_⟩
  show (0 : Int) = _
  by_cases q : i < dl k
  · rw [if_pos q, y_F_0 hdl k (by omega) _ (by omega), y_F_0 hdl k (by omega) _ (by omega)]
    rfl
  · rw [if_neg q]
theorem y_C_1 {g n : Int} (hg : 1 ≤ g) (hn : 0 ≤ n) : y_C g (n * g + 1) - y_C g (n * g) = 1 := by
  have h0 : 0 ≤ n * g := Int.mul_nonneg hn (by omega)
  unfold y_C
  rw [if_neg (by omega), show n * g + 1 - 1 = n * g by omega, Int.mul_ediv_cancel _ (by omega)]
  by_cases q : n * g ≤ 0
  · rw [if_pos q]
    have : n = 0 := by
      by_cases z : n = 0
      · exact z
      · have := Int.mul_pos (show 0 < n by omega) (show 0 < g by omega); omega
    omega
  · rw [if_neg q]
    have e : (n * g - 1) / g = n - 1 := by
      rw [show n * g - 1 = (g - 1) + (n - 1) * g by rw [Int.sub_mul]; omega, Int.add_mul_ediv_right _ _ (by omega), Int.ediv_eq_zero_of_lt (by omega) (by omega)]
      omega
    omega
theorem y_C_2 {g n j : Int} (hg : 1 ≤ g) (hn : 0 ≤ n) (hj : 1 ≤ j ∧ j < g) : y_C g (n * g + j + 1) - y_C g (n * g + j) = 0 := by
  have h0 : 0 ≤ n * g := Int.mul_nonneg hn (by omega)
  unfold y_C
  rw [if_neg (by omega), if_neg (by omega), show n * g + j + 1 - 1 = j + n * g by omega, show n * g + j - 1 = (j - 1) + n * g by omega, Int.add_mul_ediv_right _ _ (by omega), Int.add_mul_ediv_right _ _ (by omega), Int.ediv_eq_zero_of_lt (by omega) (by omega), Int.ediv_eq_zero_of_lt (by omega) (by omega)]
  omega
theorem y_in_n {g st t T : Int} {dl dn du : Int → Int} (h : y_pre g st t T dl dn du) (hC : y_C g (T + 1) - y_C g T = 0) : y_in g st t T dl 0 dn du := by
  intro k hk
  obtain ⟨h1, h2⟩ := h k hk
  refine ⟨by rw [if_neg (by omega), Int.add_zero]; exact h1, fun i i1 i2 => ?_⟩
  rw [h2 i i1 i2, if_neg (show ¬ (k < 0 ∧ i = 0) by omega)]
  by_cases q : i < dl k
  · rw [if_pos q, if_pos (Or.inl q)]
  · rw [if_neg q]
    by_cases q2 : i = dl k ∧ k ≤ 0
    · rw [if_pos (Or.inr q2)]
      have hk0 : k = 0 := by omega
      subst hk0
      have e : i = dl ((0 : Nat) : Int) := q2.1
      rw [← e, show T - i + i + 1 = T + 1 by omega, show T - i + i = T by omega]
      show (0 : Int) = y_C g (T + 1) - y_C g T
      omega
    · rw [if_neg (by omega)]
theorem y_in_c {g st t T : Int} {dl dn du : Int → Int} (ht : 0 ≤ t) (hdl : ∀ j : Int, 0 ≤ j → j < 5 → 1 ≤ dl j ∧ dl j ≤ 20) (hst : st ≤ 5) (h : y_pre g st t T dl dn du) (hC : y_C g (T + 1) - y_C g T = 1) : y_in g st t T dl 0 dn (z_bg t dl 0 1 du) := by
  intro k hk
  obtain ⟨h1, h2⟩ := h k hk
  have hd0 := hdl 0 (by omega) (by omega)
  refine ⟨by rw [if_neg (by omega), Int.add_zero]; exact h1, fun i i1 i2 => ?_⟩
  rw [if_neg (by omega)]
  unfold z_bg
  by_cases q2 : k = 0 ∧ i = dl 0
  · obtain ⟨rfl, e⟩ := q2
    have h3 := h2 i i1 i2
    rw [if_neg (show ¬ i < dl ((0 : Nat) : Int) by show ¬ i < dl 0; omega)] at h3
    rw [if_pos (Or.inr ⟨e, by omega⟩), ← e]
    show z_u du (0 * 21 + (t + i) % 21) (du (0 * 21 + (t + i) % 21) + 1) (((0 : Nat) : Int) * 21 + (t + i) % 21) = _
    rw [show ((0 : Nat) : Int) * 21 = 0 * 21 from rfl, z_u_same]
    rw [show ((0 : Nat) : Int) * 21 = 0 * 21 from rfl] at h3
    rw [h3, show dl ((0 : Nat) : Int) = i from e.symm, show T - i + i + 1 = T + 1 by omega, show T - i + i = T by omega]
    show (0 : Int) + 1 = y_C g (T + 1) - y_C g T
    omega
  · have hne : ¬ (k : Int) * 21 + (t + i) % 21 = 0 * 21 + (t + dl 0) % 21 := by
      by_cases c : k = 0
      · have : ¬ i = dl 0 := fun z => q2 ⟨c, z⟩
        omega
      · omega
    rw [z_u_ne hne, h2 i i1 i2]
    by_cases q : i < dl k
    · rw [if_pos q, if_pos (Or.inl q)]
    · rw [if_neg q, if_neg (fun z => by
        rcases z with z | ⟨z1, z2⟩
        · exact q z
        · have hk0 : k = 0 := by omega
          subst hk0
          exact q2 ⟨rfl, z1⟩)]
theorem y_pre_n {g st t T : Int} {dl dn du : Int → Int} (hst : st ≤ 5) (hdl : ∀ j : Int, 0 ≤ j → j < 5 → 1 ≤ dl j ∧ dl j ≤ 20) (h : y_in g st t T dl st.toNat dn du) : y_pre g st (t + 1) (T + 1) dl dn du := by
  intro k hk
  obtain ⟨h1, h2⟩ := h k hk
  have hd := hdl k (by omega) (by omega)
  refine ⟨by rw [h1, if_pos (by omega)]; congr 1; omega, fun i i1 i2 => ?_⟩
  by_cases q : i = 20
  · have h3 := h2 0 (by omega) (by omega)
    rw [if_pos ⟨by omega, rfl⟩] at h3
    rw [if_neg (by omega), show (t + 1 + i) % 21 = (t + 0) % 21 by omega, h3]
  · have h3 := h2 (i + 1) (by omega) (by omega)
    rw [if_neg (by omega), show t + (i + 1) = t + 1 + i by omega] at h3
    rw [h3]
    by_cases q2 : i < dl k
    · rw [if_pos q2, if_pos (by omega), show T - dl k + (i + 1) + 1 = T + 1 - dl k + i + 1 by omega, show T - dl k + (i + 1) = T + 1 - dl k + i by omega]
    · rw [if_neg q2, if_neg (by omega)]
theorem y_in_s {g st t T : Int} {dl : Int → Int} {kk : Nat} {r : z_R} (ht : 0 ≤ t) (hst : st ≤ 5) (hdl : ∀ j : Int, 0 ≤ j → j < 5 → 1 ≤ dl j ∧ dl j ≤ 20) (hkk : (kk : Int) < st) (hbit : z_bit r.2.1 kk = r.2.2.2.1 kk % 2) (hnn : 0 ≤ r.2.2.2.2 (kk * 21 + t % 21)) (h : y_in g st t T dl kk r.2.2.2.1 r.2.2.2.2) : y_in g st t T dl (kk + 1) (z_tdS t st dl kk r).2.2.2.1 (z_tdS t st dl kk r).2.2.2.2 := by
  have hd := hdl kk (by omega) (by omega)
  obtain ⟨e1, e2⟩ := h kk hkk
  have e3 := e2 0 (by omega) (by omega)
  rw [if_neg (show ¬ (kk < kk ∧ (0 : Int) = 0) by omega), if_pos (Or.inl (by omega)), Int.add_zero, Int.add_zero] at e3
  rw [if_neg (show ¬ kk < kk by omega), Int.add_zero] at e1
  have hF : ∀ x : Int, y_F g dl (kk + 1) x = y_F g dl kk (x - dl kk) / 2 := fun _ => rfl
  have hb1 : y_F g dl (kk + 1) (T + 1) = y_F g dl kk (T - dl kk + 1) / 2 := by rw [hF]; congr 2; omega
  have hb0 : y_F g dl (kk + 1) T = y_F g dl kk (T - dl kk) / 2 := hF T
  generalize hm : r.2.2.2.2 (kk * 21 + t % 21) = m at *
  generalize ha : y_F g dl kk (T - dl kk) = a at *
  generalize hb : y_F g dl kk (T - dl kk + 1) = b at *
  -- what every stage but this one keeps
  have keep : ∀ (k : Nat) (i : Int), 0 ≤ i → ¬ (k = kk ∧ i = 0) → ¬ (k = kk + 1 ∧ i = dl ((kk + 1 : Nat) : Int)) → (if k < kk + 1 ∧ i = 0 then 0 else if i < dl k ∨ (i = dl k ∧ k ≤ kk + 1) then y_F g dl k (T - dl k + i + 1) - y_F g dl k (T - dl k + i) else 0) = (if k < kk ∧ i = 0 then (0 : Int) else if i < dl k ∨ (i = dl k ∧ k ≤ kk) then y_F g dl k (T - dl k + i + 1) - y_F g dl k (T - dl k + i) else 0) := by
    intro k i i1 c1 c2
    by_cases q1 : k < kk ∧ i = 0
    · rw [if_pos (show k < kk + 1 ∧ i = 0 by omega), if_pos q1]
    · rw [if_neg (show ¬ (k < kk + 1 ∧ i = 0) by omega), if_neg q1]
      by_cases q2 : i < dl k ∨ (i = dl k ∧ k ≤ kk)
      · rw [if_pos q2, if_pos (by rcases q2 with z | z; (· exact Or.inl z); (· exact Or.inr ⟨z.1, by omega⟩))]
      · rw [if_neg q2, if_neg (fun z => by
          rcases z with z | ⟨z1, z2⟩
          · exact q2 (Or.inl z)
          · by_cases q3 : k = kk + 1
            · subst q3; exact c2 ⟨rfl, z1⟩
            · exact q2 (Or.inr ⟨z1, by omega⟩))]
  have at1 : (if kk + 1 < kk + 1 ∧ dl ((kk + 1 : Nat) : Int) = 0 then (0 : Int) else if dl ((kk + 1 : Nat) : Int) < dl ((kk + 1 : Nat) : Int) ∨ (dl ((kk + 1 : Nat) : Int) = dl ((kk + 1 : Nat) : Int) ∧ kk + 1 ≤ kk + 1) then y_F g dl (kk + 1) (T - dl ((kk + 1 : Nat) : Int) + dl ((kk + 1 : Nat) : Int) + 1) - y_F g dl (kk + 1) (T - dl ((kk + 1 : Nat) : Int) + dl ((kk + 1 : Nat) : Int)) else 0) = b / 2 - a / 2 := by
    rw [if_neg (by omega), if_pos (Or.inr ⟨rfl, by omega⟩), show T - dl ((kk + 1 : Nat) : Int) + dl ((kk + 1 : Nat) : Int) = T by omega, hb1, hb0]
  have dnk : ∀ k : Nat, ¬ k = kk → (if k < kk + 1 then (1 : Int) else 0) = if k < kk then 1 else 0 := fun k c => by
    by_cases q : k < kk
    · rw [if_pos q, if_pos (by omega)]
    · rw [if_neg q, if_neg (by omega)]
  by_cases q : 0 < r.2.2.2.2 (kk * 21 + t % 21)
  · by_cases q2 : (kk : Int) + 1 < st
    · rw [z_tdS_1 q q2]
      dsimp only
      rw [hm]
      have hd1 := hdl ((kk : Int) + 1) (by omega) (by omega)
      intro k hk
      obtain ⟨f1, f2⟩ := h k hk
      refine ⟨?_, fun i i1 i2 => ?_⟩
      · by_cases c : k = kk
        · subst c
          rw [z_u_same, if_pos (by omega), hb]; omega
        · rw [z_u_ne (by omega), dnk k c]; exact f1
      · unfold z_bg
        rw [z_u_ne (show ¬ ((kk : Int) + 1) * 21 + (t + dl ((kk : Int) + 1)) % 21 = kk * 21 + t % 21 by omega)]
        by_cases c1 : k = kk ∧ i = 0
        · obtain ⟨rfl, rfl⟩ := c1
          rw [if_pos ⟨by omega, rfl⟩, z_u_ne (by omega), Int.add_zero, z_u_same]
        · by_cases c2 : k = kk + 1 ∧ i = dl ((kk + 1 : Nat) : Int)
          · obtain ⟨rfl, rfl⟩ := c2
            have f3 := f2 _ i1 i2
            rw [if_neg (show ¬ (kk + 1 < kk ∧ dl ((kk + 1 : Nat) : Int) = 0) by omega), if_neg (by omega)] at f3
            rw [at1, show ((kk + 1 : Nat) : Int) = (kk : Int) + 1 by omega, z_u_same]
            rw [show ((kk + 1 : Nat) : Int) = (kk : Int) + 1 by omega] at f3
            rw [f3]; omega
          · have n1 : ¬ (k : Int) * 21 + (t + i) % 21 = ((kk : Int) + 1) * 21 + (t + dl ((kk : Int) + 1)) % 21 := by
              by_cases c3 : k = kk + 1
              · have : ¬ i = dl ((kk : Int) + 1) := fun z => c2 ⟨c3, by rw [z]; congr 1⟩
                omega
              · omega
            rw [keep k i i1 c1 c2, ← f2 i i1 i2, z_u_ne n1, z_u_ne (by omega)]
    · rw [z_tdS_2 q q2]
      dsimp only
      rw [hm]
      intro k hk
      obtain ⟨f1, f2⟩ := h k hk
      refine ⟨?_, fun i i1 i2 => ?_⟩
      · by_cases c : k = kk
        · subst c
          rw [z_u_same, if_pos (by omega), hb]; omega
        · rw [z_u_ne (by omega), dnk k c]; exact f1
      · by_cases c1 : k = kk ∧ i = 0
        · obtain ⟨rfl, rfl⟩ := c1
          rw [if_pos ⟨by omega, rfl⟩, Int.add_zero, z_u_same]
        · rw [keep k i i1 c1 (by omega), ← f2 i i1 i2, z_u_ne (by omega)]
  · rw [z_tdS_3 q]
    have hab : a = b := by omega
    intro k hk
    obtain ⟨f1, f2⟩ := h k hk
    refine ⟨?_, fun i i1 i2 => ?_⟩
    · by_cases c : k = kk
      · subst c
        rw [if_pos (by omega), hb]; omega
      · rw [dnk k c]; exact f1
    · by_cases c1 : k = kk ∧ i = 0
      · obtain ⟨rfl, rfl⟩ := c1
        rw [if_pos ⟨by omega, rfl⟩, Int.add_zero]; omega
      · by_cases c2 : k = kk + 1 ∧ i = dl ((kk + 1 : Nat) : Int)
        · obtain ⟨rfl, rfl⟩ := c2
          have f3 := f2 _ i1 i2
          rw [if_neg (show ¬ (kk + 1 < kk ∧ dl ((kk + 1 : Nat) : Int) = 0) by omega), if_neg (by omega)] at f3
          rw [at1, f3]; omega
        · rw [keep k i i1 c1 c2]; exact f2 i i1 i2
theorem y_td_in {ct : z_Ct} {g T : Int} (hok : z_ok ct) (h : y_in g ct.1.2.1 ct.1.1 T ct.1.2.2.2.2.1 0 ct.1.2.2.2.2.2.1 ct.1.2.2.2.2.2.2) : ∀ n : Nat, (n : Int) ≤ ct.1.2.1 → y_in g ct.1.2.1 ct.1.1 T ct.1.2.2.2.2.1 n (z_it (z_tdS ct.1.1 ct.1.2.1 ct.1.2.2.2.2.1) (0, ct.1.2.2.1, ct.1.2.2.2.1, ct.1.2.2.2.2.2.1, ct.1.2.2.2.2.2.2) n).2.2.2.1 (z_it (z_tdS ct.1.1 ct.1.2.1 ct.1.2.2.2.2.1) (0, ct.1.2.2.1, ct.1.2.2.2.1, ct.1.2.2.2.2.2.1, ct.1.2.2.2.2.2.2) n).2.2.2.2
  | 0, _ => h
  | n + 1, hn => by
    have hw := hok.1
    have h1 := y_td_in hok h n (by omega)
    have h2 := (y_td_I hw n (by omega)).2
    exact y_in_s hw.1 hw.2.1.2 hw.2.2.2.1 (by omega) (h2.2.2.2.2.2.2.2.2.1 n (by omega) (by show (n : Int) < ct.1.2.1; omega)) (h2.2.2.2.2.1 _ (by have := hw.1; omega) (by have := hw.2.1; omega)) h1
theorem y_nano {ct : z_Ct} {g T : Int} (hok : z_ok ct) (h : y_in g ct.1.2.1 ct.1.1 T ct.1.2.2.2.2.1 0 ct.1.2.2.2.2.2.1 ct.1.2.2.2.2.2.2) : y_pre g ct.1.2.1 (ct.1.1 + 1) (T + 1) ct.1.2.2.2.2.1 (z_nano ct).1.2.2.2.2.2.1 (z_nano ct).1.2.2.2.2.2.2 := by
  have hw := hok.1
  have h1 := y_td_in hok h ct.1.2.1.toNat (by have := hw.2.1; omega)
  exact y_pre_n hw.2.1.2 hw.2.2.2.1 h1
theorem y_ps_in {ct : z_Ct} {g n : Int} (hok : z_ok ct) (hg : 1 ≤ g) (hn : 0 ≤ n) (h : y_in g ct.1.2.1 ct.1.1 (n * g) ct.1.2.2.2.2.1 0 ct.1.2.2.2.2.2.1 ct.1.2.2.2.2.2.2) : ∀ j : Nat, (j : Int) + 1 ≤ g → y_pre g ct.1.2.1 (z_ps ct (j + 1)).1.1.1 (n * g + (j + 1)) ct.1.2.2.2.2.1 (z_ps ct (j + 1)).1.1.2.2.2.2.2.1 (z_ps ct (j + 1)).1.1.2.2.2.2.2.2
  | 0, _ => by
    have h1 := y_nano hok h
    exact h1
  | j + 1, hj => by
    have h1 := y_ps_in hok hg hn h j (by omega)
    obtain ⟨a1, a2, a3, a4, a5⟩ := z_ps_aux hok (j + 1)
    obtain ⟨b1, b2⟩ := z_ps_st (ct := ct) (j + 1)
    have h2 := y_in_n h1 (by rw [show n * g + ((j : Int) + 1) = n * g + ((j : Int) + 1) from rfl]; exact y_C_2 (n := n) (j := (j : Int) + 1) hg hn (by omega))
    rw [← b1, ← b2] at h2
    have h3 := y_nano a1 h2
    rw [b1, b2] at h3
    have e : n * g + (((j + 1 : Nat) : Int) + 1) = n * g + ((j : Int) + 1) + 1 := by omega
    rw [e]
    exact h3
theorem y_ps_ck {ct : z_Ct} : ∀ n : Nat, (z_ps ct n).1.2.2.2.2.1 = ct.2.2.2.2.1
  | 0 => rfl
  | n + 1 => y_ps_ck n
theorem y_wt_in {ct : z_Ct} {g : Int} (h : z_ok ct) (hg : 1 ≤ g ∧ g ≤ 50) (ht : ct.1.1 ≤ 100000) : ∀ n : Nat, n ≤ 32 → y_pre g ct.1.2.1 (z_wt ct g n).1.1.1 ((n : Int) * g) ct.1.2.2.2.2.1 (z_wt ct g n).1.1.2.2.2.2.2.1 (z_wt ct g n).1.1.2.2.2.2.2.2 ∧ (z_wt ct g n).1.2.2.2.2.1 = (n : Int) % z_p2 ct.1.2.1
  | 0, _ => by
    have hp := z_p2_le (k := ct.1.2.1) (by have := h.1.2.1; omega)
    have h1 := y_pre_0 (g := g) (st := ct.1.2.1) (t := ct.1.1) (dl := ct.1.2.2.2.2.1) h.1.2.1 h.1.2.2.2.1
    rw [show ((0 : Nat) : Int) * g = 0 by simp]
    exact ⟨h1, (Int.zero_emod _).symm⟩
  | n + 1, hn => by
    obtain ⟨h1, h2⟩ := y_wt_in h hg ht n (by omega)
    obtain ⟨a1, a2, a3, a4, a5, a6, a7⟩ := z_wt_ok h hg ht n (by omega)
    have h8 := z_ok_take a1 (by omega)
    have hw := a1.1
    have h3 := y_in_c hw.1 h.1.2.2.2.1 h.1.2.1.2 h1 (y_C_1 (n := (n : Int)) hg.1 (by omega))
    have e1 : (z_take (z_wt ct g n).1).1.2.1 = ct.1.2.1 := a2
    have e2 : (z_take (z_wt ct g n).1).1.2.2.2.2.1 = ct.1.2.2.2.2.1 := a3
    have h4 : y_in g (z_take (z_wt ct g n).1).1.2.1 (z_take (z_wt ct g n).1).1.1 ((n : Int) * g) (z_take (z_wt ct g n).1).1.2.2.2.2.1 0 (z_take (z_wt ct g n).1).1.2.2.2.2.2.1 (z_take (z_wt ct g n).1).1.2.2.2.2.2.2 := by
      rw [e1, e2]
      have e3 : (z_take (z_wt ct g n).1).1.2.2.2.2.2.2 = z_bg (z_wt ct g n).1.1.1 (z_wt ct g n).1.1.2.2.2.2.1 0 1 (z_wt ct g n).1.1.2.2.2.2.2.2 := rfl
      rw [e3, a3]
      exact h3
    have h5 := y_ps_in h8 hg.1 (show (0 : Int) ≤ n by omega) h4 (g.toNat - 1) (by omega)
    rw [e1, e2, show g.toNat - 1 + 1 = g.toNat by omega] at h5
    refine ⟨?_, ?_⟩
    · have e4 : (n : Int) * g + (((g.toNat - 1 : Nat) : Int) + 1) = ((n + 1 : Nat) : Int) * g := by
        rw [show ((n + 1 : Nat) : Int) = (n : Int) + 1 by omega, Int.add_mul, Int.one_mul]; omega
      rw [e4] at h5
      exact h5
    · have e5 : (z_wt ct g (n + 1)).1.2.2.2.2.1 = ((z_wt ct g n).1.2.2.2.2.1 + 1) % z_p2 (z_wt ct g n).1.1.2.1 := y_ps_ck (ct := z_take (z_wt ct g n).1) g.toNat
      rw [e5, a2, h2, show ((n + 1 : Nat) : Int) = (n : Int) + 1 by omega, Int.emod_add_emod]
theorem y_F_cl (g : Int) (dl : Int → Int) : ∀ (k : Nat) (x : Int), y_F g dl k x = y_C g (x - z_S dl 0 k) / z_p2 k
  | 0, x => by
    show y_C g x = y_C g (x - 0) / z_p2 ((0 : Nat) : Int)
    rw [Int.sub_zero, show z_p2 ((0 : Nat) : Int) = 1 from rfl, Int.ediv_one]
  | k + 1, x => by
    have hp := z_p2_pos (k : Int)
    show y_F g dl k (x - dl k) / 2 = _
    rw [y_F_cl g dl k, z_S_succ, Int.zero_add, show x - dl k - z_S dl 0 k = x - (z_S dl 0 k + dl k) by omega, Int.ediv_ediv, if_neg (fun z => by omega), Int.sub_zero]
    congr 1
theorem y_C_cl {g n D : Int} (hg : 1 ≤ g) (hD : 0 ≤ D) : y_C g (n * g - D) = if 0 < n - D / g then n - D / g else 0 := by
  unfold y_C
  have e := Int.mul_ediv_add_emod D g
  have r1 := Int.emod_nonneg D (show ¬ g = 0 by omega)
  have r2 := Int.emod_lt_of_pos D (show 0 < g by omega)
  have e2 : n * g - D = (n - D / g) * g - D % g := by rw [Int.sub_mul, Int.mul_comm (D / g) g]; omega
  by_cases q : 0 < n - D / g
  · have h1 : 1 * g ≤ (n - D / g) * g := Int.mul_le_mul_of_nonneg_right (by omega) (by omega)
    rw [if_pos q, if_neg (by omega), e2, show (n - D / g) * g - D % g - 1 = (g - 1 - D % g) + (n - D / g - 1) * g by rw [Int.sub_mul (n - D / g) 1 g]; omega, Int.add_mul_ediv_right _ _ (by omega), Int.ediv_eq_zero_of_lt (by omega) (by omega)]
    omega
  · have h1 : (n - D / g) * g ≤ 0 * g := Int.mul_le_mul_of_nonneg_right (by omega) (by omega)
    rw [if_neg q, if_pos (by omega)]
theorem y_rt_iff {dl : Int → Int} {c g : Int} : ∀ (n : Nat) (k th : Int), z_rt dl c g k th n = 1 ↔ ∀ i : Nat, i < n → z_bit (if 0 < c - (th + z_S dl k (i + 1)) / g then c - (th + z_S dl k (i + 1)) / g else 0) (k + i) = z_bit c (k + i)
  | 0, _, _ => ⟨fun _ i hi => by omega, fun _ => rfl⟩
  | n + 1, k, th => by
    rw [z_rt_step (m := n) rfl]
    have e0 : z_S dl k (0 + 1) = dl k := by rw [z_S_succ]; show (0 : Int) + dl (k + ((0 : Nat) : Int)) = dl k; rw [show k + ((0 : Nat) : Int) = k by omega, Int.zero_add]
    have hs : ∀ i : Nat, th + z_S dl k (i + 1 + 1) = th + dl k + z_S dl (k + 1) (i + 1) := fun i => by rw [z_S_front]; omega
    by_cases q : z_bit (if 0 < c - (th + dl k) / g then c - (th + dl k) / g else 0) k = z_bit c k
    · rw [if_pos q, y_rt_iff n]
      constructor
      · intro h i hi
        cases i with
        | zero => rw [e0, show k + ((0 : Nat) : Int) = k by omega]; exact q
        | succ i => rw [hs, show k + ((i + 1 : Nat) : Int) = k + 1 + (i : Int) by omega]; exact h i (by omega)
      · intro h i hi
        have h1 := h (i + 1) (by omega)
        rw [hs, show k + ((i + 1 : Nat) : Int) = k + 1 + (i : Int) by omega] at h1
        exact h1
    · rw [if_neg q]
      refine ⟨fun z => by omega, fun h => ?_⟩
      have h1 := h 0 (by omega)
      rw [e0, show k + ((0 : Nat) : Int) = k by omega] at h1
      exact absurd h1 q
theorem y_dbm : ∀ s : Nat, s < 6 → ∀ c : Nat, c < 33 → ∀ k : Nat, k < s → ((c : Int) % ((2 ^ s : Nat) : Int)) / ((2 ^ k : Nat) : Int) % 2 = (c : Int) / ((2 ^ k : Nat) : Int) % 2 := by decide +kernel
theorem y_bit_m {c k s : Int} (hs : 0 ≤ s ∧ s ≤ 5) (hc : 0 ≤ c ∧ c ≤ 32) (hk : 0 ≤ k ∧ k < s) : z_bit (c % z_p2 s) k = z_bit c k := by
  obtain ⟨c, rfl⟩ := Int.eq_ofNat_of_zero_le hc.1
  obtain ⟨k, rfl⟩ := Int.eq_ofNat_of_zero_le hk.1
  obtain ⟨s, rfl⟩ := Int.eq_ofNat_of_zero_le hs.1
  unfold z_bit
  rw [z_p2_nat, z_p2_nat]
  exact y_dbm s (by omega) c (by omega) k (by omega)
theorem y_bits {x y s : Int} (hs : 0 ≤ s) (hx : 0 ≤ x ∧ x < z_p2 s) (hy : 0 ≤ y ∧ y < z_p2 s) (h : ∀ k : Nat, (k : Int) < s → z_bit x k = z_bit y k) : x = y := by
  obtain ⟨x, rfl⟩ := Int.eq_ofNat_of_zero_le hx.1
  obtain ⟨y, rfl⟩ := Int.eq_ofNat_of_zero_le hy.1
  obtain ⟨s, rfl⟩ := Int.eq_ofNat_of_zero_le hs
  rw [z_p2_nat] at hx hy
  have h1 := z_bits_sum x s
  have h2 := z_bits_sum y s
  rw [z_it_congr s (g := fun k a => a + z_bit (y : Int) k * z_p2 k) (fun k a k1 k2 => by
    obtain ⟨n, rfl⟩ := Int.eq_ofNat_of_zero_le k1
    show a + z_bit (x : Int) (n : Int) * z_p2 n = a + z_bit (y : Int) (n : Int) * z_p2 n
    rw [h n (by omega)]), h2] at h1
  rw [Nat.mod_eq_of_lt (by omega), Nat.mod_eq_of_lt (by omega)] at h1
  exact h1.symm
theorem z_wt_wc {ct : z_Ct} {g : Int} (h : z_ok ct) (hg : 1 ≤ g ∧ g ≤ 50) (ht : ct.1.1 ≤ 100000) : (z_wt ct g (z_p2 ct.1.2.1).toNat).2 = z_wc ct.1.2.1 ct.1.2.2.2.2.1 g := by
  have hst := h.1.2.1
  have hdl := h.1.2.2.2.1
  have hp := z_p2_le (k := ct.1.2.1) (by omega)
  have key : ∀ n : Nat, n ≤ 32 → (z_wt ct g n).2 = z_it (fun j a => if z_rt ct.1.2.2.2.2.1 (j + 1) g 0 0 ct.1.2.1.toNat = 0 then a + 1 else a) 0 n := by
    intro n
    induction n with
    | zero => intro _; rfl
    | succ n ih =>
      intro hn
      rw [z_wt_s, ih (by omega)]
      show z_it (fun j a => if z_rt ct.1.2.2.2.2.1 (j + 1) g 0 0 ct.1.2.1.toNat = 0 then a + 1 else a) 0 n + _ = if z_rt ct.1.2.2.2.2.1 ((n : Int) + 1) g 0 0 ct.1.2.1.toNat = 0 then z_it (fun j a => if z_rt ct.1.2.2.2.2.1 (j + 1) g 0 0 ct.1.2.1.toNat = 0 then a + 1 else a) 0 n + 1 else z_it (fun j a => if z_rt ct.1.2.2.2.2.1 (j + 1) g 0 0 ct.1.2.1.toNat = 0 then a + 1 else a) 0 n
      have e9 : (z_ps (z_take (z_wt ct g n).1) g.toNat).1 = (z_wt ct g (n + 1)).1 := rfl
      rw [e9]
      obtain ⟨a1, a2, a3, a4, a5, a6, a7⟩ := z_wt_ok h hg ht (n + 1) hn
      obtain ⟨b1, b2⟩ := y_wt_in h hg ht (n + 1) hn
      have hw := a1.1
      have hsh := hw.2.2.1
      have hbt := hw.2.2.2.2.2.2.2.2.1
      have hck := a1.2.2.2.2.1
      rw [a2] at hsh hck
      have hbit : ∀ i : Nat, (i : Int) < ct.1.2.1 → z_bit (z_wt ct g (n + 1)).1.1.2.2.1 i = z_bit (if 0 < ((n : Int) + 1) - (0 + z_S ct.1.2.2.2.2.1 0 (i + 1)) / g then ((n : Int) + 1) - (0 + z_S ct.1.2.2.2.2.1 0 (i + 1)) / g else 0) (0 + i) := by
        intro i hi
        have hnn := z_S_nn (f := ct.1.2.2.2.2.1) (a := 0) (i + 1) (fun j j1 j2 => by have := hdl (0 + j) (by omega) (by omega); omega)
        rw [hbt i (by omega) (by rw [a2]; exact hi), (b1 i hi).1, y_F_cl, z_S_succ] at *
        rw [Int.zero_add] at *
        rw [show ((n + 1 : Nat) : Int) * g - ct.1.2.2.2.2.1 i - z_S ct.1.2.2.2.2.1 0 i = ((n + 1 : Nat) : Int) * g - (z_S ct.1.2.2.2.2.1 0 i + ct.1.2.2.2.2.1 i) by omega, y_C_cl hg.1 hnn, show ((n + 1 : Nat) : Int) = (n : Int) + 1 by omega]
        simp only [Int.zero_add]
        rfl
      have hiff : z_rt ct.1.2.2.2.2.1 ((n : Int) + 1) g 0 0 ct.1.2.1.toNat = 1 ↔ (z_wt ct g (n + 1)).1.1.2.2.1 = (z_wt ct g (n + 1)).1.2.2.2.2.1 := by
        rw [y_rt_iff]
        constructor
        · intro z
          refine y_bits (s := ct.1.2.1) (by omega) hsh hck (fun k hk => ?_)
          rw [hbit k hk, z k (by omega), b2, y_bit_m (by omega) (by omega) ⟨by omega, hk⟩, Int.zero_add, show ((n + 1 : Nat) : Int) = (n : Int) + 1 by omega]
        · intro z i hi
          rw [← hbit i (by omega), z, b2, y_bit_m (by omega) (by omega) ⟨by omega, by omega⟩, Int.zero_add, show ((n + 1 : Nat) : Int) = (n : Int) + 1 by omega]
      by_cases q : (z_wt ct g (n + 1)).1.1.2.2.1 = (z_wt ct g (n + 1)).1.2.2.2.2.1
      · rw [if_pos q, if_neg (by rw [hiff.mpr q]; decide), Int.add_zero]
      · rw [if_neg q]
        rcases z_rt01 ct.1.2.2.2.2.1 ((n : Int) + 1) g ct.1.2.1.toNat 0 0 with z | z
        · rw [if_pos z]
        · exact absurd (hiff.mp z) q
  exact key _ (by omega)
/-! ===== no reading is wrong just when the gap is longer than the way through ===== -/
theorem y_cnt {P : Int → Prop} [DecidablePred P] : ∀ n : Nat, 0 ≤ z_it (fun j a => if P j then a + 1 else a) (0 : Int) n ∧ (z_it (fun j a => if P j then a + 1 else a) (0 : Int) n = 0 ↔ ∀ j : Int, 0 ≤ j → j < n → ¬ P j)
  | 0 => ⟨Int.le_refl _, fun _ j j1 j2 => by omega, fun _ => rfl⟩
  | n + 1 => by
    obtain ⟨h1, h2⟩ := y_cnt (P := P) n
    show 0 ≤ (if P (n : Int) then z_it (fun j a => if P j then a + 1 else a) (0 : Int) n + 1 else z_it (fun j a => if P j then a + 1 else a) (0 : Int) n) ∧ ((if P (n : Int) then z_it (fun j a => if P j then a + 1 else a) (0 : Int) n + 1 else z_it (fun j a => if P j then a + 1 else a) (0 : Int) n) = 0 ↔ ∀ j : Int, 0 ≤ j → j < ((n + 1 : Nat) : Int) → ¬ P j)
    by_cases q : P (n : Int)
    · rw [if_pos q]
      exact ⟨by omega, fun z => by omega, fun z => absurd q (z n (by omega) (by omega))⟩
    · rw [if_neg q]
      refine ⟨h1, fun z j j1 j2 => ?_, fun z => h2.mpr (fun j j1 j2 => z j j1 (by omega))⟩
      by_cases c : j = n
      · rw [c]; exact q
      · exact h2.mp z j j1 (by omega)
theorem y_rt_1 {dl : Int → Int} {c g : Int} (hc : 0 < c) (hg : 0 < g) : ∀ (n : Nat) (k th : Int), 0 ≤ th → (∀ i : Int, 0 ≤ i → i < n → 0 ≤ dl (k + i)) → th + z_S dl k n < g → z_rt dl c g k th n = 1
  | 0, _, _, _, _, _ => rfl
  | n + 1, k, th, h1, h2, h3 => by
    rw [z_S_front] at h3
    have hd := h2 0 (by omega) (by omega)
    rw [Int.add_zero] at hd
    have hnn := z_S_nn (f := dl) (a := k + 1) n (fun i i1 i2 => by have := h2 (1 + i) (by omega) (by omega); rw [show k + 1 + i = k + (1 + i) by omega]; exact this)
    rw [z_rt_step (m := n) rfl, Int.ediv_eq_zero_of_lt (show 0 ≤ th + dl k by omega) (by omega), Int.sub_zero, if_pos hc, if_pos rfl]
    exact y_rt_1 hc hg n (k + 1) (th + dl k) (by omega) (fun i i1 i2 => by have := h2 (1 + i) (by omega) (by omega); rw [show k + 1 + i = k + (1 + i) by omega]; exact this) (by omega)
theorem y_bit_p2 {x : Int} {k : Int} (hx : 0 ≤ x ∧ x < z_p2 k) : z_bit x k = 0 := by
  unfold z_bit
  rw [Int.ediv_eq_zero_of_lt hx.1 hx.2]
  rfl
theorem y_bit_p2_1 (k : Int) : z_bit (z_p2 k) k = 1 := by
  unfold z_bit
  rw [Int.ediv_self (by have := z_p2_pos k; omega)]
  rfl
theorem y_rt_0 {dl : Int → Int} {c g : Int} (hg : 0 < g) : ∀ (n : Nat) (k th : Int), c = z_p2 (k + n) → g ≤ th + z_S dl k (n + 1) → z_rt dl c g k th (n + 1) = 0
  | 0, k, th, h1, h2 => by
    rw [z_S_succ] at h2
    have h3 : g ≤ th + dl k := by
      have e : z_S dl k 0 = 0 := rfl
      rw [e, show k + ((0 : Nat) : Int) = k by omega] at h2
      omega
    have h4 : 1 ≤ (th + dl k) / g := by rw [Int.le_ediv_iff_mul_le hg]; omega
    rw [show k + ((0 : Nat) : Int) = k by omega] at h1
    have hp := z_p2_pos k
    have h5 : z_bit (if 0 < c - (th + dl k) / g then c - (th + dl k) / g else 0) k = 0 := y_bit_p2 (by split <;> omega)
    rw [z_rt_step (m := 0) rfl, h5, h1, y_bit_p2_1, if_neg (by decide)]
  | n + 1, k, th, h1, h2 => by
    rw [z_rt_step (m := n + 1) rfl]
    by_cases q : z_bit (if 0 < c - (th + dl k) / g then c - (th + dl k) / g else 0) k = z_bit c k
    · rw [if_pos q]
      rw [z_S_front] at h2
      exact y_rt_0 hg n (k + 1) (th + dl k) (by rw [h1]; congr 1; omega) (by omega)
    · rw [if_neg q]
theorem z_wc_0 {st g : Int} {dl : Int → Int} (hst : 1 ≤ st ∧ st ≤ 5) (hdl : ∀ j : Int, 0 ≤ j → j < 5 → 1 ≤ dl j ∧ dl j ≤ 20) (hg : 1 ≤ g ∧ g ≤ 50) : z_wc st dl g = 0 ↔ z_it (fun j a => a + dl j) 0 st.toNat < g := by
  have hS : z_it (fun j a => a + dl j) 0 st.toNat = z_S dl 0 st.toNat := by
    unfold z_S
    exact z_it_congr _ (fun k a _ _ => by show a + dl k = a + dl (0 + k); rw [Int.zero_add])
  have hp := z_p2_le (k := st) (by omega)
  rw [hS]
  unfold z_wc
  rw [(y_cnt (P := fun j => z_rt dl (j + 1) g 0 0 st.toNat = 0) (z_p2 st).toNat).2]
  constructor
  · intro h
    by_cases q : z_S dl 0 st.toNat < g
    · exact q
    · exfalso
      have hp1 := z_p2_pos (st - 1)
      have hpp : z_p2 st = 2 * z_p2 (st - 1) := by
        unfold z_p2
        rw [show st.toNat = (st - 1).toNat + 1 by omega, Int.pow_succ]
        omega
      refine h (z_p2 (st - 1) - 1) (by omega) (by omega) ?_
      have h9 := y_rt_0 (dl := dl) (c := z_p2 (st - 1)) (g := g) (by omega) (st - 1).toNat 0 0 (by congr 1; omega) (by rw [show (st - 1).toNat + 1 = st.toNat by omega]; omega)
      rw [show (st - 1).toNat + 1 = st.toNat by omega] at h9
      rw [show z_p2 (st - 1) - 1 + 1 = z_p2 (st - 1) by omega]
      exact h9
  · intro h j j1 j2 z
    have h9 := y_rt_1 (dl := dl) (c := j + 1) (g := g) (by omega) (by omega) st.toNat 0 0 (by omega) (fun i i1 i2 => by have := hdl (0 + i) (by omega) (by omega); omega) (by omega)
    rw [h9] at z
    omega
theorem z_wc_rng {st g : Int} {dl : Int → Int} (hst : 1 ≤ st ∧ st ≤ 5) : 0 ≤ z_wc st dl g ∧ z_wc st dl g ≤ 32 := by
  have hp := z_p2_le (k := st) (by omega)
  have key : ∀ n : Nat, (0 : Int) ≤ z_it (fun j a => if z_rt dl (j + 1) g 0 0 st.toNat = 0 then a + 1 else a) (0 : Int) n ∧ z_it (fun j a => if z_rt dl (j + 1) g 0 0 st.toNat = 0 then a + 1 else a) 0 n ≤ (n : Int) := by
    intro n
    induction n with
    | zero => show (0 : Int) ≤ 0 ∧ (0 : Int) ≤ ((0 : Nat) : Int); omega
    | succ n ih =>
      show 0 ≤ (if z_rt dl ((n : Int) + 1) g 0 0 st.toNat = 0 then z_it (fun j a => if z_rt dl (j + 1) g 0 0 st.toNat = 0 then a + 1 else a) 0 n + 1 else z_it (fun j a => if z_rt dl (j + 1) g 0 0 st.toNat = 0 then a + 1 else a) 0 n) ∧ (if z_rt dl ((n : Int) + 1) g 0 0 st.toNat = 0 then z_it (fun j a => if z_rt dl (j + 1) g 0 0 st.toNat = 0 then a + 1 else a) 0 n + 1 else z_it (fun j a => if z_rt dl (j + 1) g 0 0 st.toNat = 0 then a + 1 else a) 0 n) ≤ ((n + 1 : Nat) : Int)
      split <;> omega
  have h1 := key (z_p2 st).toNat
  unfold z_wc
  omega
/-- the safe gap; 51 if there is none -/
def z_sf (st : Int) (dl : Int → Int) : Int := (if 50 < z_it (fun j a => a + dl j) 0 st.toNat then 50 else z_it (fun j a => a + dl j) 0 st.toNat) + 1
/-- a delay is one -/
theorem z_th_u {dl : Int → Int} {k : Int} (hk : 0 ≤ k) : ∀ n : Nat, z_it (fun j a => a + z_u dl k 1 j) 0 n = if k < n then z_it (fun j a => a + dl j) 0 n - dl k + 1 else z_it (fun j a => a + dl j) 0 n
  | 0 => by rw [if_neg (by omega)]; rfl
  | n + 1 => by
    show z_it (fun j a => a + z_u dl k 1 j) 0 n + z_u dl k 1 (n : Int) = if k < ((n + 1 : Nat) : Int) then z_it (fun j a => a + dl j) 0 n + dl (n : Int) - dl k + 1 else z_it (fun j a => a + dl j) 0 n + dl (n : Int)
    rw [z_th_u hk n]
    by_cases q : k = n
    · rw [if_neg (by omega), if_pos (by omega), q, z_u_same]; omega
    · rw [z_u_ne (by omega)]
      by_cases q2 : k < n
      · rw [if_pos q2, if_pos (by omega)]; omega
      · rw [if_neg q2, if_neg (by omega)]
theorem z_sf_gif {st k : Int} {dl : Int → Int} (hk : 0 ≤ k ∧ k < st) : z_sf st (z_u dl k 1) = z_gif st dl k := by
  unfold z_sf z_gif
  have h := z_th_u (dl := dl) hk.1 st.toNat
  rw [if_pos (by omega)] at h
  rw [h]
theorem z_ok_dl {ct : z_Ct} (h : z_ok ct) (ht : ct.1.1 ≤ 9999) {k : Int} (hk : 0 ≤ k ∧ k < ct.1.2.1) : z_ok ((ct.1.1, ct.1.2.1, ct.1.2.2.1, ct.1.2.2.2.1, z_u ct.1.2.2.2.2.1 k 1, ct.1.2.2.2.2.2.1, ct.1.2.2.2.2.2.2), ct.2.1, ct.2.2.1, ct.2.2.2.1, ct.2.2.2.2.1, ct.2.2.2.2.2.1, ct.2.2.2.2.2.2.1, ct.2.2.2.2.2.2.2) := by
  have h1 := z_cd_ok h ht k 1
  unfold z_cd at h1
  rw [if_pos hk, if_pos (by omega)] at h1
  exact h1.1
theorem z_tb_s {st : Int} {dl : Int → Int} {k bl le : Int} (hk : 0 ≤ k) (h : (k = 0 ∧ bl = 0 ∧ le = 52) ∨ (1 ≤ k ∧ (bl, le) = z_it (fun j q => if z_gif st dl (j + 1) < q.2 then (j + 1, z_gif st dl (j + 1)) else q) (0, z_gif st dl 0) (k - 1).toNat)) (h0 : z_gif st dl 0 ≤ 51) : (if z_gif st dl k < le then k else bl, if z_gif st dl k < le then z_gif st dl k else le) = z_it (fun j q => if z_gif st dl (j + 1) < q.2 then (j + 1, z_gif st dl (j + 1)) else q) (0, z_gif st dl 0) (k + 1 - 1).toNat := by
  rcases h with ⟨rfl, rfl, rfl⟩ | ⟨h1, h2⟩
  · rw [if_pos (by omega), if_pos (by omega)]
    rfl
  · obtain ⟨n, hn⟩ := Int.eq_ofNat_of_zero_le (show 0 ≤ k - 1 by omega)
    rw [show (k + 1 - 1).toNat = (k - 1).toNat + 1 by omega]
    show _ = (if z_gif st dl ((((k - 1).toNat : Nat) : Int) + 1) < (z_it (fun j q => if z_gif st dl (j + 1) < q.2 then (j + 1, z_gif st dl (j + 1)) else q) (0, z_gif st dl 0) (k - 1).toNat).2 then ((((k - 1).toNat : Nat) : Int) + 1, z_gif st dl ((((k - 1).toNat : Nat) : Int) + 1)) else z_it (fun j q => if z_gif st dl (j + 1) < q.2 then (j + 1, z_gif st dl (j + 1)) else q) (0, z_gif st dl 0) (k - 1).toNat)
    rw [← h2, show (((k - 1).toNat : Nat) : Int) + 1 = k by omega]
    by_cases q : z_gif st dl k < le
    · rw [if_pos q, if_pos q, if_pos q]
    · rw [if_neg q, if_neg q, if_neg q]
