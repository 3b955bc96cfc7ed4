/-! ===== what if: until all is quiet, what shows, the tests ===== -/
/-- how long until all is through, at most -/
def z_pot (t : Int) (dl du : Int → Int) (M : Int) : Prop := ∀ k i : Int, 0 ≤ k → k < 5 → 0 ≤ i → i < 21 → 0 < du (k * 21 + (t + i) % 21) → i + z_S dl (k + 1) (4 - k).toNat ≤ M
theorem z_S_rng {f : Int → Int} {a lo hi : Int} : ∀ n : Nat, (∀ i : Int, 0 ≤ i → i < n → lo ≤ f (a + i) ∧ f (a + i) ≤ hi) → (n : Int) * lo ≤ z_S f a n ∧ z_S f a n ≤ (n : Int) * hi
  | 0, _ => by
    show ((0 : Nat) : Int) * lo ≤ (0 : Int) ∧ (0 : Int) ≤ ((0 : Nat) : Int) * hi
    simp
  | n + 1, h => by
    have h1 := z_S_rng n (fun i i1 i2 => h i i1 (by omega))
    have h2 := h n (by omega) (by omega)
    rw [z_S_succ, show ((n + 1 : Nat) : Int) = (n : Int) + 1 by omega, Int.add_mul, Int.add_mul, Int.one_mul, Int.one_mul]
    omega
theorem z_pot_0 {t : Int} {dl du : Int → Int} (hdl : ∀ j : Int, 0 ≤ j → j < 5 → 1 ≤ dl j ∧ dl j ≤ 20) : z_pot t dl du 100 := by
  intro k i k1 k2 i1 i2 _
  have h := (z_S_rng (f := dl) (a := k + 1) (lo := 0) (hi := 20) (4 - k).toNat (fun j j1 j2 => by have := hdl (k + 1 + j) (by omega) (by omega); omega)).2
  omega
theorem z_pot_s {t st M : Int} {dl : Int → Int} {k : Int} {r : z_R} (ht : 0 ≤ t) (hdl : ∀ j : Int, 0 ≤ j → j < 5 → 1 ≤ dl j ∧ dl j ≤ 20) (hk : 0 ≤ k ∧ k < st) (hst : st ≤ 5) (h : z_pot t dl r.2.2.2.2 M) : z_pot t dl (z_tdS t st dl k r).2.2.2.2 M := by
  intro j i j1 j2 i1 i2 hp
  by_cases q : 0 < r.2.2.2.2 (k * 21 + t % 21)
  · by_cases q2 : k + 1 < st
    · rw [z_tdS_1 q q2] at hp
      dsimp only at hp
      unfold z_bg at hp
      have hd := hdl (k + 1) (by omega) (by omega)
      by_cases q3 : j = k + 1 ∧ i = dl (k + 1)
      · have h0 := h k 0 hk.1 (by omega) (by omega) (by omega) (by rw [Int.add_zero]; exact q)
        have h1 := z_S_front dl (k + 1) (4 - (k + 1)).toNat
        rw [show (4 - (k + 1)).toNat + 1 = (4 - k).toNat by omega] at h1
        rw [q3.1, q3.2]
        omega
      · rw [z_u_ne (by omega)] at hp
        by_cases q4 : j * 21 + (t + i) % 21 = k * 21 + t % 21
        · rw [q4, z_u_same] at hp; omega
        · rw [z_u_ne q4] at hp
          exact h j i j1 j2 i1 i2 hp
    · rw [z_tdS_2 q q2] at hp
      dsimp only at hp
      by_cases q4 : j * 21 + (t + i) % 21 = k * 21 + t % 21
      · rw [q4, z_u_same] at hp; omega
      · rw [z_u_ne q4] at hp
        exact h j i j1 j2 i1 i2 hp
  · rw [z_tdS_3 q] at hp
    exact h j i j1 j2 i1 i2 hp
theorem z_pot_n {t st M : Int} {dl : Int → Int} {r0 : z_R} (ht : 0 ≤ t) (hdl : ∀ j : Int, 0 ≤ j → j < 5 → 1 ≤ dl j ∧ dl j ≤ 20) (hst : st ≤ 5) (h : z_pot t dl r0.2.2.2.2 M) : ∀ n : Nat, (n : Int) ≤ st → z_pot t dl (z_it (z_tdS t st dl) r0 n).2.2.2.2 M
  | 0, _ => h
  | n + 1, hn => z_pot_s ht hdl (by omega) hst (z_pot_n ht hdl hst h n (by omega))
theorem z_pot_nano {ct : z_Ct} {M : Int} (hok : z_ok ct) (h : z_pot ct.1.1 ct.1.2.2.2.2.1 ct.1.2.2.2.2.2.2 M) : z_pot (z_nano ct).1.1 (z_nano ct).1.2.2.2.2.1 (z_nano ct).1.2.2.2.2.2.2 (M - 1) := by
  have hw := hok.1
  have hst := hw.2.1
  have ht := hw.1
  have hz := z_td_zero hok
  have h1 := z_pot_n (st := ct.1.2.1) (r0 := (0, ct.1.2.2.1, ct.1.2.2.2.1, ct.1.2.2.2.2.2.1, ct.1.2.2.2.2.2.2)) ht hw.2.2.2.1 hst.2 h ct.1.2.1.toNat (by omega)
  intro k i k1 k2 i1 i2 hp
  have hp' : 0 < (z_tdR ct).2.2.2.2 (k * 21 + (ct.1.1 + 1 + i) % 21) := hp
  show i + z_S ct.1.2.2.2.2.1 (k + 1) (4 - k).toNat ≤ M - 1
  by_cases q : i = 20
  · have h2 := hz k k1 k2
    rw [show (ct.1.1 + 1 + i) % 21 = ct.1.1 % 21 by omega] at hp'
    omega
  · have h3 := h1 k (i + 1) k1 k2 (by omega) (by omega) (by rw [show ct.1.1 + (i + 1) = ct.1.1 + 1 + i by omega]; exact hp')
    omega
theorem z_pot_pos {ct : z_Ct} {M : Int} (hok : z_ok ct) (h : z_pot ct.1.1 ct.1.2.2.2.2.1 ct.1.2.2.2.2.2.2 M) (ho : 0 < ct.1.2.2.2.1) : 0 ≤ M := by
  have hw := hok.1
  obtain ⟨ht, hst, hsh, hdl, hdu, hdn, hB, htot, hbit, hzero, how⟩ := hw
  by_cases q : 0 ≤ M
  · exact q
  · have h2 : z_S ct.1.2.2.2.2.2.2 0 105 = 0 := by
      refine z_S_zero 105 (fun i i1 i2 => ?_)
      have h3 := hdu (0 + i) (by omega) (by omega)
      by_cases q2 : 0 < ct.1.2.2.2.2.2.2 (0 + i)
      · have h4 := h (i / 21) ((i % 21 - ct.1.1 % 21) % 21) (by omega) (by omega) (by omega) (by omega) (by rw [show i / 21 * 21 + (ct.1.1 + (i % 21 - ct.1.1 % 21) % 21) % 21 = 0 + i by omega]; exact q2)
        have h5 := (z_S_rng (f := ct.1.2.2.2.2.1) (a := i / 21 + 1) (lo := 0) (hi := 20) (4 - i / 21).toNat (fun j j1 j2 => by have := hdl (i / 21 + 1 + j) (by omega) (by omega); omega)).1
        omega
      · omega
    omega
theorem z_wn_nano (ct : z_Ct) : z_wn ct.1 = (z_nano ct).1 := rfl
theorem z_wn_ps (ct : z_Ct) : ∀ n : Nat, z_it (fun _ w => z_wn w) ct.1 n = (z_ps ct n).1.1
  | 0 => rfl
  | n + 1 => by
    show z_wn (z_it (fun _ w => z_wn w) ct.1 n) = (z_nano (z_ps ct n).1).1
    rw [z_wn_ps ct n]
    rfl
/-- the row beside -/
theorem z_cop {ct : z_Ct} {f u : Int → Int} (h : z_rel ct 0 f) (hok : z_ok ct) (hu : ∀ j : Int, u j = if 356 ≤ j ∧ j < 712 then f (j - 356) else f j) : z_rel ct 356 u ∧ ∀ j : Int, j < 356 → u j = f j :=
  ⟨z_rel_shift h (by have := hok.2.1.1; omega) (by have := hok.2.2.1.1; omega) (fun j j1 j2 => by rw [hu, if_pos (by omega)]; congr 1; omega), fun j hj => by rw [hu, if_neg (by omega)]⟩
theorem z_rel_fr {ct : z_Ct} {f u : Int → Int} (h : z_rel ct 0 f) (hok : z_ok ct) (hu : ∀ j : Int, j < 356 → u j = f j) : z_rel ct 0 u :=
  z_rel_shift h (by have := hok.2.1.1; omega) (by have := hok.2.2.1.1; omega) (fun j j1 j2 => by rw [hu _ (by omega)])
/-- a test: the counter, how many readings were wrong -/
def z_wS (g : Int) (q : z_Ct × Int) : z_Ct × Int := ((z_ps (z_take q.1) g.toNat).1, q.2 + (if (z_ps (z_take q.1) g.toNat).1.1.2.2.1 = (z_ps (z_take q.1) g.toNat).1.2.2.2.2.1 then 0 else 1))
def z_wt (ct : z_Ct) (g : Int) (n : Nat) : z_Ct × Int := z_it (fun _ q => z_wS g q) (z_anew ct ct.1.2.1, 0) n
theorem z_wt_s (ct : z_Ct) (g : Int) (n : Nat) : (z_wt ct g (n + 1)).2 = (z_wt ct g n).2 + (if (z_ps (z_take (z_wt ct g n).1) g.toNat).1.1.2.2.1 = (z_ps (z_take (z_wt ct g n).1) g.toNat).1.2.2.2.2.1 then 0 else 1) := rfl
def z_wc (st : Int) (dl : Int → Int) (g : Int) : Int := z_it (fun j a => if z_rt dl (j + 1) g 0 0 st.toNat = 0 then a + 1 else a) 0 (z_p2 st).toNat
theorem z_ps_st {ct : z_Ct} : ∀ n : Nat, (z_ps ct n).1.1.2.1 = ct.1.2.1 ∧ (z_ps ct n).1.1.2.2.2.2.1 = ct.1.2.2.2.2.1
  | 0 => ⟨rfl, rfl⟩
  | n + 1 => z_ps_st n
theorem z_wt_ok {ct : z_Ct} {g : Int} (h : z_ok ct) (hg : 1 ≤ g ∧ g ≤ 50) (ht : ct.1.1 ≤ 100000) : ∀ n : Nat, n ≤ 32 → z_ok (z_wt ct g n).1 ∧ (z_wt ct g n).1.1.2.1 = ct.1.2.1 ∧ (z_wt ct g n).1.1.2.2.2.2.1 = ct.1.2.2.2.2.1 ∧ (z_wt ct g n).1.1.1 = ct.1.1 + n * g ∧ (z_wt ct g n).1.2.2.2.2.2.1 < (z_wt ct g n).1.1.1 ∧ (z_wt ct g n).1.1.1 ≤ ct.1.1 + 50 * n ∧ (0 ≤ (z_wt ct g n).2 ∧ (z_wt ct g n).2 ≤ n)
  | 0, _ => by
    have hst := h.1.2.1
    have h1 := z_ok_anew h hst
    have ht0 := h.1.1
    refine ⟨h1, rfl, rfl, ?_, ?_, ?_, ?_⟩
    · show ct.1.1 = ct.1.1 + ((0 : Nat) : Int) * g; simp
    · show (-1 : Int) < ct.1.1; omega
    · show ct.1.1 ≤ ct.1.1 + 50 * ((0 : Nat) : Int); omega
    · show (0 : Int) ≤ 0 ∧ (0 : Int) ≤ ((0 : Nat) : Int); omega
  | n + 1, hn => by
    obtain ⟨h1, h2, h3, h4, h5, h6, h7⟩ := z_wt_ok h hg ht n (by omega)
    have h8 := z_ok_take h1 (by omega)
    obtain ⟨a1, a2, a3, a4, a5⟩ := z_ps_aux h8 g.toNat
    obtain ⟨b1, b2⟩ := z_ps_st (ct := z_take (z_wt ct g n).1) g.toNat
    have e1 : (z_take (z_wt ct g n).1).1.1 = (z_wt ct g n).1.1.1 := rfl
    have e2 : (z_take (z_wt ct g n).1).2.2.2.2.2.1 = (z_wt ct g n).1.1.1 := rfl
    have e3 : (z_wt ct g (n + 1)).1 = (z_ps (z_take (z_wt ct g n).1) g.toNat).1 := rfl
    have e4 : (z_wt ct g (n + 1)).2 = (z_wt ct g n).2 + (if (z_ps (z_take (z_wt ct g n).1) g.toNat).1.1.2.2.1 = (z_ps (z_take (z_wt ct g n).1) g.toNat).1.2.2.2.2.1 then 0 else 1) := rfl
    rw [e3, e4]
    refine ⟨a1, by rw [b1]; exact h2, by rw [b2]; exact h3, ?_, ?_, ?_, ?_⟩
    · rw [a2, e1, h4, show ((n + 1 : Nat) : Int) = (n : Int) + 1 by omega, Int.add_mul, Int.one_mul]; omega
    · rw [a2, a3, e1, e2]; omega
    · rw [a2, e1]; omega
    · split <;> omega
/-- the test tells what the closed form tells -/
theorem z_wt_wc {ct : z_Ct} {g : Int} (h : z_ok ct) (hg : 1 ≤ g ∧ g ≤ 50) (ht : ct.1.1 ≤ 100000) : (z_wt ct g (z_p2 ct.1.2.1).toNat).2 = z_wc ct.1.2.1 ct.1.2.2.2.2.1 g := by
  sorry
/-! ===== no reading is wrong just when the gap is longer than the way through ===== -/
theorem y_cnt {P : Int → Prop} [DecidablePred P] : ∀ n : Nat, 0 ≤ z_it (fun j a => if P j then a + 1 else a) (0 : Int) n ∧ (z_it (fun j a => if P j then a + 1 else a) (0 : Int) n = 0 ↔ ∀ j : Int, 0 ≤ j → j < n → ¬ P j)
  | 0 => ⟨Int.le_refl _, fun _ j j1 j2 => by omega, fun _ => rfl⟩
  | n + 1 => by
    obtain ⟨h1, h2⟩ := y_cnt (P := P) n
    show 0 ≤ (if P (n : Int) then z_it (fun j a => if P j then a + 1 else a) (0 : Int) n + 1 else z_it (fun j a => if P j then a + 1 else a) (0 : Int) n) ∧ ((if P (n : Int) then z_it (fun j a => if P j then a + 1 else a) (0 : Int) n + 1 else z_it (fun j a => if P j then a + 1 else a) (0 : Int) n) = 0 ↔ ∀ j : Int, 0 ≤ j → j < ((n + 1 : Nat) : Int) → ¬ P j)
    by_cases q : P (n : Int)
    · rw [if_pos q]
      exact ⟨by omega, fun z => by omega, fun z => absurd q (z n (by omega) (by omega))⟩
    · rw [if_neg q]
      refine ⟨h1, fun z j j1 j2 => ?_, fun z => h2.mpr (fun j j1 j2 => z j j1 (by omega))⟩
      by_cases c : j = n
      · rw [c]; exact q
      · exact h2.mp z j j1 (by omega)
theorem y_rt_1 {dl : Int → Int} {c g : Int} (hc : 0 < c) (hg : 0 < g) : ∀ (n : Nat) (k th : Int), 0 ≤ th → (∀ i : Int, 0 ≤ i → i < n → 0 ≤ dl (k + i)) → th + z_S dl k n < g → z_rt dl c g k th n = 1
  | 0, _, _, _, _, _ => rfl
  | n + 1, k, th, h1, h2, h3 => by
    rw [z_S_front] at h3
    have hd := h2 0 (by omega) (by omega)
    rw [Int.add_zero] at hd
    have hnn := z_S_nn (f := dl) (a := k + 1) n (fun i i1 i2 => by have := h2 (1 + i) (by omega) (by omega); rw [show k + 1 + i = k + (1 + i) by omega]; exact this)
    rw [z_rt_step (m := n) rfl, Int.ediv_eq_zero_of_lt (show 0 ≤ th + dl k by omega) (by omega), Int.sub_zero, if_pos hc, if_pos rfl]
    exact y_rt_1 hc hg n (k + 1) (th + dl k) (by omega) (fun i i1 i2 => by have := h2 (1 + i) (by omega) (by omega); rw [show k + 1 + i = k + (1 + i) by omega]; exact this) (by omega)
theorem y_bit_p2 {x : Int} {k : Int} (hx : 0 ≤ x ∧ x < z_p2 k) : z_bit x k = 0 := by
  unfold z_bit
  rw [Int.ediv_eq_zero_of_lt hx.1 hx.2]
  rfl
theorem y_bit_p2_1 (k : Int) : z_bit (z_p2 k) k = 1 := by
  unfold z_bit
  rw [Int.ediv_self (by have := z_p2_pos k; omega)]
  rfl
theorem y_rt_0 {dl : Int → Int} {c g : Int} (hg : 0 < g) : ∀ (n : Nat) (k th : Int), c = z_p2 (k + n) → g ≤ th + z_S dl k (n + 1) → z_rt dl c g k th (n + 1) = 0
  | 0, k, th, h1, h2 => by
    rw [z_S_succ] at h2
    have h3 : g ≤ th + dl k := by
      have e : z_S dl k 0 = 0 := rfl
      rw [e, show k + ((0 : Nat) : Int) = k by omega] at h2
      omega
    have h4 : 1 ≤ (th + dl k) / g := by rw [Int.le_ediv_iff_mul_le hg]; omega
    rw [show k + ((0 : Nat) : Int) = k by omega] at h1
    have hp := z_p2_pos k
    have h5 : z_bit (if 0 < c - (th + dl k) / g then c - (th + dl k) / g else 0) k = 0 := y_bit_p2 (by split <;> omega)
    rw [z_rt_step (m := 0) rfl, h5, h1, y_bit_p2_1, if_neg (by decide)]
  | n + 1, k, th, h1, h2 => by
    rw [z_rt_step (m := n + 1) rfl]
    by_cases q : z_bit (if 0 < c - (th + dl k) / g then c - (th + dl k) / g else 0) k = z_bit c k
    · rw [if_pos q]
      rw [z_S_front] at h2
      exact y_rt_0 hg n (k + 1) (th + dl k) (by rw [h1]; congr 1; omega) (by omega)
    · rw [if_neg q]
theorem z_wc_0 {st g : Int} {dl : Int → Int} (hst : 1 ≤ st ∧ st ≤ 5) (hdl : ∀ j : Int, 0 ≤ j → j < 5 → 1 ≤ dl j ∧ dl j ≤ 20) (hg : 1 ≤ g ∧ g ≤ 50) : z_wc st dl g = 0 ↔ z_it (fun j a => a + dl j) 0 st.toNat < g := by
  have hS : z_it (fun j a => a + dl j) 0 st.toNat = z_S dl 0 st.toNat := by
    unfold z_S
    exact z_it_congr _ (fun k a _ _ => by show a + dl k = a + dl (0 + k); rw [Int.zero_add])
  have hp := z_p2_le (k := st) (by omega)
  rw [hS]
  unfold z_wc
  rw [(y_cnt (P := fun j => z_rt dl (j + 1) g 0 0 st.toNat = 0) (z_p2 st).toNat).2]
  constructor
  · intro h
    by_cases q : z_S dl 0 st.toNat < g
    · exact q
    · exfalso
      have hp1 := z_p2_pos (st - 1)
      have hpp : z_p2 st = 2 * z_p2 (st - 1) := by
        unfold z_p2
        rw [show st.toNat = (st - 1).toNat + 1 by omega, Int.pow_succ]
        omega
      refine h (z_p2 (st - 1) - 1) (by omega) (by omega) ?_
      have h9 := y_rt_0 (dl := dl) (c := z_p2 (st - 1)) (g := g) (by omega) (st - 1).toNat 0 0 (by congr 1; omega) (by rw [show (st - 1).toNat + 1 = st.toNat by omega]; omega)
      rw [show (st - 1).toNat + 1 = st.toNat by omega] at h9
      rw [show z_p2 (st - 1) - 1 + 1 = z_p2 (st - 1) by omega]
      exact h9
  · intro h j j1 j2 z
    have h9 := y_rt_1 (dl := dl) (c := j + 1) (g := g) (by omega) (by omega) st.toNat 0 0 (by omega) (fun i i1 i2 => by have := hdl (0 + i) (by omega) (by omega); omega) (by omega)
    rw [h9] at z
    omega
theorem z_wc_rng {st g : Int} {dl : Int → Int} (hst : 1 ≤ st ∧ st ≤ 5) : 0 ≤ z_wc st dl g ∧ z_wc st dl g ≤ 32 := by
  have hp := z_p2_le (k := st) (by omega)
  have key : ∀ n : Nat, (0 : Int) ≤ z_it (fun j a => if z_rt dl (j + 1) g 0 0 st.toNat = 0 then a + 1 else a) (0 : Int) n ∧ z_it (fun j a => if z_rt dl (j + 1) g 0 0 st.toNat = 0 then a + 1 else a) 0 n ≤ (n : Int) := by
    intro n
    induction n with
    | zero => show (0 : Int) ≤ 0 ∧ (0 : Int) ≤ ((0 : Nat) : Int); omega
    | succ n ih =>
      show 0 ≤ (if z_rt dl ((n : Int) + 1) g 0 0 st.toNat = 0 then z_it (fun j a => if z_rt dl (j + 1) g 0 0 st.toNat = 0 then a + 1 else a) 0 n + 1 else z_it (fun j a => if z_rt dl (j + 1) g 0 0 st.toNat = 0 then a + 1 else a) 0 n) ∧ (if z_rt dl ((n : Int) + 1) g 0 0 st.toNat = 0 then z_it (fun j a => if z_rt dl (j + 1) g 0 0 st.toNat = 0 then a + 1 else a) 0 n + 1 else z_it (fun j a => if z_rt dl (j + 1) g 0 0 st.toNat = 0 then a + 1 else a) 0 n) ≤ ((n + 1 : Nat) : Int)
      split <;> omega
  have h1 := key (z_p2 st).toNat
  unfold z_wc
  omega
/-- the safe gap; 51 if there is none -/
def z_sf (st : Int) (dl : Int → Int) : Int := (if 50 < z_it (fun j a => a + dl j) 0 st.toNat then 50 else z_it (fun j a => a + dl j) 0 st.toNat) + 1
/-- a delay is one -/
theorem z_th_u {dl : Int → Int} {k : Int} (hk : 0 ≤ k) : ∀ n : Nat, z_it (fun j a => a + z_u dl k 1 j) 0 n = if k < n then z_it (fun j a => a + dl j) 0 n - dl k + 1 else z_it (fun j a => a + dl j) 0 n
  | 0 => by rw [if_neg (by omega)]; rfl
  | n + 1 => by
    show z_it (fun j a => a + z_u dl k 1 j) 0 n + z_u dl k 1 (n : Int) = if k < ((n + 1 : Nat) : Int) then z_it (fun j a => a + dl j) 0 n + dl (n : Int) - dl k + 1 else z_it (fun j a => a + dl j) 0 n + dl (n : Int)
    rw [z_th_u hk n]
    by_cases q : k = n
    · rw [if_neg (by omega), if_pos (by omega), q, z_u_same]; omega
    · rw [z_u_ne (by omega)]
      by_cases q2 : k < n
      · rw [if_pos q2, if_pos (by omega)]; omega
      · rw [if_neg q2, if_neg (by omega)]
theorem z_sf_gif {st k : Int} {dl : Int → Int} (hk : 0 ≤ k ∧ k < st) : z_sf st (z_u dl k 1) = z_gif st dl k := by
  unfold z_sf z_gif
  have h := z_th_u (dl := dl) hk.1 st.toNat
  rw [if_pos (by omega)] at h
  rw [h]
theorem z_ok_dl {ct : z_Ct} (h : z_ok ct) (ht : ct.1.1 ≤ 9999) {k : Int} (hk : 0 ≤ k ∧ k < ct.1.2.1) : z_ok ((ct.1.1, ct.1.2.1, ct.1.2.2.1, ct.1.2.2.2.1, z_u ct.1.2.2.2.2.1 k 1, ct.1.2.2.2.2.2.1, ct.1.2.2.2.2.2.2), ct.2.1, ct.2.2.1, ct.2.2.2.1, ct.2.2.2.2.1, ct.2.2.2.2.2.1, ct.2.2.2.2.2.2.1, ct.2.2.2.2.2.2.2) := by
  have h1 := z_cd_ok h ht k 1
  unfold z_cd at h1
  rw [if_pos hk, if_pos (by omega)] at h1
  exact h1.1
theorem z_tb_s {st : Int} {dl : Int → Int} {k bl le : Int} (hk : 0 ≤ k) (h : (k = 0 ∧ bl = 0 ∧ le = 52) ∨ (1 ≤ k ∧ (bl, le) = z_it (fun j q => if z_gif st dl (j + 1) < q.2 then (j + 1, z_gif st dl (j + 1)) else q) (0, z_gif st dl 0) (k - 1).toNat)) (h0 : z_gif st dl 0 ≤ 51) : (if z_gif st dl k < le then k else bl, if z_gif st dl k < le then z_gif st dl k else le) = z_it (fun j q => if z_gif st dl (j + 1) < q.2 then (j + 1, z_gif st dl (j + 1)) else q) (0, z_gif st dl 0) (k + 1 - 1).toNat := by
  rcases h with ⟨rfl, rfl, rfl⟩ | ⟨h1, h2⟩
  · rw [if_pos (by omega), if_pos (by omega)]
    rfl
  · obtain ⟨n, hn⟩ := Int.eq_ofNat_of_zero_le (show 0 ≤ k - 1 by omega)
    rw [show (k + 1 - 1).toNat = (k - 1).toNat + 1 by omega]
    show _ = (if z_gif st dl ((((k - 1).toNat : Nat) : Int) + 1) < (z_it (fun j q => if z_gif st dl (j + 1) < q.2 then (j + 1, z_gif st dl (j + 1)) else q) (0, z_gif st dl 0) (k - 1).toNat).2 then ((((k - 1).toNat : Nat) : Int) + 1, z_gif st dl ((((k - 1).toNat : Nat) : Int) + 1)) else z_it (fun j q => if z_gif st dl (j + 1) < q.2 then (j + 1, z_gif st dl (j + 1)) else q) (0, z_gif st dl 0) (k - 1).toNat)
    rw [← h2, show (((k - 1).toNat : Nat) : Int) + 1 = k by omega]
    by_cases q : z_gif st dl k < le
    · rw [if_pos q, if_pos q, if_pos q]
    · rw [if_neg q, if_neg q, if_neg q]
