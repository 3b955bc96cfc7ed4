/-! ===== nanoseconds that pass ===== -/
theorem x_td0 {t st : Int} {dl : Int → Int} {r : z_R} (hst : st ≤ 5) (ht : 0 ≤ t) (h : ∀ i : Int, 0 ≤ i → i < 105 → r.2.2.2.2 i = 0) : ∀ n : Nat, (n : Int) ≤ st → z_it (z_tdS t st dl) r n = r
  | 0, _ => rfl
  | n + 1, hn => by
    show z_tdS t st dl (n : Int) (z_it (z_tdS t st dl) r n) = r
    rw [x_td0 hst ht h n (by omega)]
    refine z_tdS_3 ?_
    rw [h _ (by omega) (by omega)]
    decide
theorem x_wn0 {w : z_Wv} {B : Int} (hw : z_wok w B) (h0 : w.2.2.2.1 = 0) : z_it (z_tdS w.1 w.2.1 w.2.2.2.2.1) (0, w.2.2.1, w.2.2.2.1, w.2.2.2.2.2.1, w.2.2.2.2.2.2) w.2.1.toNat = (0, w.2.2.1, w.2.2.2.1, w.2.2.2.2.2.1, w.2.2.2.2.2.2) :=
  x_td0 hw.2.1.2 hw.1 (x_ow0 hw h0) w.2.1.toNat (by have := hw.2.1; omega)
theorem x_tdR0 {ct : z_Ct} (h : z_ok ct) (h0 : ct.1.2.2.2.1 = 0) : (z_tdR ct).1 = 0 ∧ (z_nano ct).1.2.2.2.1 = 0 := by
  have e : z_tdR ct = (0, ct.1.2.2.1, ct.1.2.2.2.1, ct.1.2.2.2.2.2.1, ct.1.2.2.2.2.2.2) := x_wn0 h.1 h0
  refine ⟨by rw [e], ?_⟩
  show (z_tdR ct).2.2.1 = 0
  rw [e]
  exact h0
theorem x_ps0 {ct : z_Ct} (h : z_ok ct) (h0 : ct.1.2.2.2.1 = 0) : ∀ n : Nat, (z_ps ct n).2 = 0 ∧ (z_ps ct n).1.1.2.2.2.1 = 0
  | 0 => ⟨rfl, h0⟩
  | n + 1 => by
    obtain ⟨h1, h2⟩ := x_ps0 h h0 n
    obtain ⟨h3, h4⟩ := x_tdR0 (z_ps_aux h n).1 h2
    refine ⟨?_, h4⟩
    show (z_ps ct n).2 + (z_tdR (z_ps ct n).1).1 = 0
    omega
theorem x_ps_add {ct : z_Ct} (a : Nat) : ∀ b : Nat, (z_ps ct (a + b)).1 = (z_ps (z_ps ct a).1 b).1
  | 0 => rfl
  | b + 1 => by
    show z_nano (z_ps ct (a + b)).1 = z_nano (z_ps (z_ps ct a).1 b).1
    rw [x_ps_add a b]
theorem x_ps_one {ct : z_Ct} : ∀ n : Nat, (z_ps (z_nano ct) n).1 = (z_ps ct (n + 1)).1
  | 0 => rfl
  | n + 1 => by
    show z_nano (z_ps (z_nano ct) n).1 = z_nano (z_ps ct (n + 1)).1
    rw [x_ps_one n]
/-- until all is still -/
theorem x_si : ∀ (m n : Nat) (ct : z_Ct) (j : Int), m ≤ n → (∀ i : Nat, i < m → 0 < (z_ps ct i).1.1.2.2.2.1) → ¬ 0 < (z_ps ct m).1.1.2.2.2.1 → (z_si ct.1 j n).1 = j + m
  | 0, n, ct, j, _, _, h2 => by
    rw [z_si_0 (w := ct.1) (show ¬ 0 < ct.1.2.2.2.1 from h2)]
    show j = j + ((0 : Nat) : Int)
    omega
  | m + 1, n, ct, j, hmn, h1, h2 => by
    rw [z_si_s (w := ct.1) (m := n - 1) (by omega) (show 0 < ct.1.2.2.2.1 from h1 0 (by omega)), z_wn_nano, x_si m (n - 1) (z_nano ct) (j + 1) (by omega) (fun i hi => by rw [x_ps_one]; exact h1 (i + 1) (by omega)) (by rw [x_ps_one]; exact h2)]
    omega
theorem x_least {P : Nat → Prop} (hd : ∀ n, P n ∨ ¬ P n) : ∀ n : Nat, P n → ∃ m : Nat, m ≤ n ∧ P m ∧ ∀ i : Nat, i < m → ¬ P i
  | 0, h => ⟨0, by omega, h, fun i hi => by omega⟩
  | n + 1, h => by
    by_cases q : ∃ k : Nat, k ≤ n ∧ P k
    · obtain ⟨k, k1, k2⟩ := q
      have : ∀ a : Nat, ∀ k : Nat, k ≤ a → P k → ∃ m : Nat, m ≤ k ∧ P m ∧ ∀ i : Nat, i < m → ¬ P i := by
        intro a
        induction a with
        | zero => intro k k1 k2; exact ⟨k, by omega, k2, fun i hi => by omega⟩
        | succ a ih =>
          intro k k1 k2
          by_cases z : ∃ i : Nat, i < k ∧ P i
          · obtain ⟨i, i1, i2⟩ := z
            obtain ⟨m, m1, m2, m3⟩ := ih i (by omega) i2
            exact ⟨m, by omega, m2, m3⟩
          · exact ⟨k, by omega, k2, fun i hi hp => z ⟨i, hi, hp⟩⟩
      obtain ⟨m, m1, m2, m3⟩ := this n k k1 k2
      exact ⟨m, by omega, m2, m3⟩
    · exact ⟨n + 1, by omega, h, fun i hi hp => q ⟨i, by omega, hp⟩⟩
theorem x_pot {ct : z_Ct} (h : z_ok ct) : ∀ n : Nat, z_pot (z_ps ct n).1.1.1 (z_ps ct n).1.1.2.2.2.2.1 (z_ps ct n).1.1.2.2.2.2.2.2 (100 - n)
  | 0 => z_pot_0 h.1.2.2.2.1
  | n + 1 => by
    have h1 := z_pot_nano (z_ps_aux h n).1 (x_pot h n)
    rw [show (100 : Int) - ((n + 1 : Nat) : Int) = 100 - (n : Int) - 1 by omega]
    exact h1
theorem x_ow_nn {ct : z_Ct} (h : z_ok ct) (n : Nat) : 0 ≤ (z_ps ct n).1.1.2.2.2.1 := (z_wok_ow (z_ps_aux h n).1.1).1
theorem x_stillAt {ct : z_Ct} (h : z_ok ct) : ∃ m : Nat, m ≤ 101 ∧ (z_si ct.1 0 101).1 = m ∧ (z_ps ct m).1.1.2.2.2.1 = 0 ∧ ∀ i : Nat, i < m → 0 < (z_ps ct i).1.1.2.2.2.1 := by
  have h1 : (z_ps ct 101).1.1.2.2.2.1 = 0 := by
    have h2 := x_pot h 101
    have h3 := x_ow_nn h 101
    by_cases q : 0 < (z_ps ct 101).1.1.2.2.2.1
    · have h4 := z_pot_pos (z_ps_aux h 101).1 h2 q
      omega
    · omega
  obtain ⟨m, m1, m2, m3⟩ := x_least (P := fun n => (z_ps ct n).1.1.2.2.2.1 = 0) (fun n => Decidable.em _) 101 h1
  have m4 : ∀ i : Nat, i < m → 0 < (z_ps ct i).1.1.2.2.2.1 := fun i hi => by
    have a1 := m3 i hi
    have a2 := x_ow_nn h i
    have a3 : ¬ (z_ps ct i).1.1.2.2.2.1 = 0 := a1
    omega
  refine ⟨m, m1, ?_, m2, m4⟩
  rw [x_si m 101 ct 0 m1 m4 (by show ¬ 0 < (z_ps ct m).1.1.2.2.2.1; have m2' : (z_ps ct m).1.1.2.2.2.1 = 0 := m2; omega)]
  omega
theorem x_stillIn {ct : z_Ct} (h : z_ok ct) : 0 ≤ (z_si ct.1 0 101).1 ∧ (z_si ct.1 0 101).1 ≤ 101 ∧ ((z_si ct.1 0 101).1 = 0 ↔ ct.1.2.2.2.1 = 0) := by
  obtain ⟨m, m1, m2, m3, m4⟩ := x_stillAt h
  rw [m2]
  refine ⟨by omega, by omega, ⟨fun z => ?_, fun z => ?_⟩⟩
  · have : m = 0 := by omega
    subst this
    exact m3
  · by_cases q : m = 0
    · omega
    · have h1 := m4 0 (by omega)
      have h2 : 0 < ct.1.2.2.2.1 := h1
      omega
theorem x_stillPs {ct : z_Ct} (h : z_ok ct) (n : Nat) : ((n : Int) < (z_si ct.1 0 101).1 → (z_si (z_ps ct n).1.1 0 101).1 = (z_si ct.1 0 101).1 - n) ∧ (¬ (n : Int) < (z_si ct.1 0 101).1 → (z_si (z_ps ct n).1.1 0 101).1 = 0 ∧ (z_ps ct n).1.1.2.2.2.1 = 0) := by
  obtain ⟨m, m1, m2, m3, m4⟩ := x_stillAt h
  rw [m2]
  constructor
  · intro hn
    rw [x_si (m - n) 101 (z_ps ct n).1 0 (by omega) (fun i hi => by rw [← x_ps_add]; exact m4 _ (by omega)) (by rw [← x_ps_add, show n + (m - n) = m by omega]; omega)]
    omega
  · intro hn
    have h0 : (z_ps ct n).1.1.2.2.2.1 = 0 := by
      have h1 := (x_ps0 (z_ps_aux h m).1 m3 (n - m)).2
      rw [← x_ps_add, show m + (n - m) = n by omega] at h1
      exact h1
    refine ⟨?_, h0⟩
    rw [z_si_0 (by omega)]
/-- what was done, stage by stage -/
theorem x_done {ct : z_Ct} (h : z_ok ct) : ∀ n : Nat, (z_ps ct n).2 = z_S (z_ps ct n).1.1.2.2.2.2.2.1 0 ct.1.2.1.toNat - z_S ct.1.2.2.2.2.2.1 0 ct.1.2.1.toNat
  | 0 => by
    show (0 : Int) = z_S ct.1.2.2.2.2.2.1 0 ct.1.2.1.toNat - z_S ct.1.2.2.2.2.2.1 0 ct.1.2.1.toNat
    omega
  | n + 1 => by
    have h1 := x_done h n
    have h2 := (x_tdR (z_ps_aux h n).1).2
    have h3 := (z_ps_st (ct := ct) n).1
    rw [h3] at h2
    show (z_ps ct n).2 + (z_tdR (z_ps ct n).1).1 = z_S (z_tdR (z_ps ct n).1).2.2.2.1 0 ct.1.2.1.toNat - z_S ct.1.2.2.2.2.2.1 0 ct.1.2.1.toNat
    omega
/-- a latch that waits closes once, and tells the count -/
theorem x_latch {ct : z_Ct} (h : x_ok ct) : ∀ n : Nat, ((z_ps ct n).1.2.1.1 = ct.2.1.1 ∧ (z_ps ct n).1.2.2.2.2.2.2.2 = ct.2.2.2.2.2.2.2) ∨ ((z_ps ct n).1.2.1.1 = ct.2.1.1 + 1 ∧ (z_ps ct n).1.2.2.2.2.2.2.2 = 0 ∧ ct.2.2.2.2.2.2.2 = 1 ∧ (z_ps ct n).1.2.1.2.2.2.2 ct.2.1.1 = 1 ∧ (z_ps ct n).1.2.1.2.2.1 ct.2.1.1 < (z_ps ct n).1.1.1 ∧ (z_ps ct n).1.2.1.2.1 ct.2.1.1 = (z_ps ct n).1.2.1.2.2.2.1 ct.2.1.1)
  | 0 => Or.inl ⟨rfl, rfl⟩
  | n + 1 => by
    have hx := x_ps h n
    have hl := hx.1.2.2.2.2.2.2.2.1
    by_cases c : z_ncl (z_ps ct n).1 (z_tdR (z_ps ct n).1)
    · have e1 : (z_ps ct (n + 1)).1.2.1 = z_rad (z_ps ct n).1.2.1 (z_tdR (z_ps ct n).1).2.1 (z_ps ct n).1.1.1 (z_ps ct n).1.2.2.2.2.1 1 := if_pos c
      have e2 : (z_ps ct (n + 1)).1.2.2.2.2.2.2.2 = 0 := if_pos c
      have e3 : (z_ps ct (n + 1)).1.1.1 = (z_ps ct n).1.1.1 + 1 := rfl
      have e4 : (z_tdR (z_ps ct n).1).2.1 = (z_ps ct n).1.2.2.2.2.1 := x_still (x_nano hx) c.2.1
      rcases x_latch h n with ⟨a1, a2⟩ | ⟨a1, a2, _⟩
      · right
        rw [e1, e2, e3]
        unfold z_rad
        dsimp only
        rw [a1, z_u_same, z_u_same, z_u_same, z_u_same, e4]
        have c1 := c.1
        exact ⟨rfl, rfl, by omega, rfl, by omega, rfl⟩
      · exact absurd a2 c.1
    · have e1 : (z_ps ct (n + 1)).1.2.1 = (z_ps ct n).1.2.1 := if_neg c
      have e2 : (z_ps ct (n + 1)).1.2.2.2.2.2.2.2 = (z_ps ct n).1.2.2.2.2.2.2.2 := if_neg c
      have e3 : (z_ps ct (n + 1)).1.1.1 = (z_ps ct n).1.1.1 + 1 := rfl
      rw [e1, e2, e3]
      rcases x_latch h n with ⟨a1, a2⟩ | ⟨a1, a2, a3, a4, a5, a6⟩
      · exact Or.inl ⟨a1, a2⟩
      · exact Or.inr ⟨a1, a2, a3, a4, by omega, a6⟩
/-! ===== the test, made with a counter of its own ===== -/
theorem x_ps_w {c d : z_Ct} (h : c.1 = d.1) (n : Nat) : (z_ps c n).1.1 = (z_ps d n).1.1 := by
  rw [← z_wn_ps, ← z_wn_ps, h]
theorem x_take_w {c d : z_Ct} (h : c.1 = d.1) : (z_take c).1 = (z_take d).1 := by
  unfold z_take
  dsimp only
  rw [h]
theorem x_ps_rd {ct : z_Ct} (h : ct.2.2.2.2.2.2.2 = 0) : ∀ n : Nat, (z_ps ct n).1.2.1 = ct.2.1 ∧ (z_ps ct n).1.2.2.2.2.2.2.2 = 0
  | 0 => ⟨rfl, h⟩
  | n + 1 => by
    obtain ⟨h1, h2⟩ := x_ps_rd h n
    have c : ¬ z_ncl (z_ps ct n).1 (z_tdR (z_ps ct n).1) := fun c => c.1 h2
    have e1 : (z_ps ct (n + 1)).1.2.1 = (z_ps ct n).1.2.1 := if_neg c
    have e2 : (z_ps ct (n + 1)).1.2.2.2.2.2.2.2 = (z_ps ct n).1.2.2.2.2.2.2.2 := if_neg c
    rw [e1, e2]
    exact ⟨h1, h2⟩
theorem x_rt_congr {dl dl' : Int → Int} {c g : Int} : ∀ (n : Nat) (k th : Int), (∀ j : Int, k ≤ j → j < k + n → dl j = dl' j) → z_rt dl c g k th n = z_rt dl' c g k th n
  | 0, _, _, _ => rfl
  | n + 1, k, th, h => by
    rw [z_rt_step (m := n) rfl, z_rt_step (m := n) rfl, h k (by omega) (by omega), x_rt_congr n (k + 1) (th + dl' k) (fun j j1 j2 => h j (by omega) (by omega))]
theorem x_wc_congr {dl dl' : Int → Int} {st g : Int} (hst : 0 ≤ st) (h : ∀ j : Int, 0 ≤ j → j < st → dl j = dl' j) : z_wc st dl g = z_wc st dl' g := by
  unfold z_wc
  refine z_it_congr _ (fun j a _ _ => ?_)
  rw [x_rt_congr st.toNat 0 0 (fun j j1 j2 => h j j1 (by omega))]
/-- a new counter of so many stages, delays told up to a stage -/
def x_fr (q : z_Ct) (st : Int) (dl : Int → Int) (k : Int) : Prop :=
  x_ok q ∧ q.1.1 = 0 ∧ q = z_anew q st ∧ (∀ j : Int, 0 ≤ j → j < k → q.1.2.2.2.2.1 j = dl j) ∧ (∀ j : Int, k ≤ j → q.1.2.2.2.2.1 j = 3)
theorem x_fr_st {q : z_Ct} {st k : Int} {dl : Int → Int} (h : x_fr q st dl k) : q.1.2.1 = st := by
  have := congrArg (fun c : z_Ct => c.1.2.1) h.2.2.1
  exact this
theorem x_fr_cd {q : z_Ct} {st k : Int} {dl : Int → Int} (h : x_fr q st dl k) (hk : 0 ≤ k ∧ k < st) (hd : 1 ≤ dl k ∧ dl k ≤ 20) : (z_cd q k (dl k)).2 = 3 ∧ x_fr (z_cd q k (dl k)).1 st dl (k + 1) := by
  have hst := x_fr_st h
  have e : z_cd q k (dl k) = (((q.1.1, q.1.2.1, q.1.2.2.1, q.1.2.2.2.1, z_u q.1.2.2.2.2.1 k (dl k), q.1.2.2.2.2.2.1, q.1.2.2.2.2.2.2), q.2.1, q.2.2.1, q.2.2.2.1, q.2.2.2.2.1, q.2.2.2.2.2.1, q.2.2.2.2.2.2.1, q.2.2.2.2.2.2.2), q.1.2.2.2.2.1 k) := by
    unfold z_cd
    rw [if_pos (by omega), if_pos hd]
  have hx := x_cd h.1 (by rw [h.2.1]; decide) k (dl k)
  rw [e] at hx ⊢
  refine ⟨h.2.2.2.2 k (Int.le_refl _), hx, h.2.1, ?_, fun j j1 j2 => ?_, fun j j1 => ?_⟩
  · have e2 := h.2.2.1
    have a1 := congrArg (fun c : z_Ct => c.1.2.1) e2
    have a2 := congrArg (fun c : z_Ct => c.1.2.2.1) e2
    have a3 := congrArg (fun c : z_Ct => c.1.2.2.2.1) e2
    have a4 := congrArg (fun c : z_Ct => c.1.2.2.2.2.2.1) e2
    have a5 := congrArg (fun c : z_Ct => c.1.2.2.2.2.2.2) e2
    have a6 := congrArg (fun c : z_Ct => c.2.1) e2
    have a7 := congrArg (fun c : z_Ct => c.2.2.1) e2
    have a8 := congrArg (fun c : z_Ct => c.2.2.2.2) e2
    show (_, _) = ((q.1.1, st, (0 : Int), (0 : Int), z_u q.1.2.2.2.2.1 k (dl k), (fun _ => (0 : Int)), (fun _ => (0 : Int))), (z_anew q st).2.1, (z_anew q st).2.2.1, q.2.2.2.1, (z_anew q st).2.2.2.2)
    have b1 : q.1.2.1 = st := a1
    have b2 : q.1.2.2.1 = 0 := a2
    have b3 : q.1.2.2.2.1 = 0 := a3
    have b4 : q.1.2.2.2.2.2.1 = (fun _ => 0) := a4
    have b5 : q.1.2.2.2.2.2.2 = (fun _ => 0) := a5
    have b6 : q.2.1 = (z_anew q st).2.1 := a6
    have b7 : q.2.2.1 = (z_anew q st).2.2.1 := a7
    have b8 : q.2.2.2.2 = (z_anew q st).2.2.2.2 := a8
    rw [← b6, ← b7, ← b8, b1, b2, b3, b4, b5]
  · show z_u q.1.2.2.2.2.1 k (dl k) j = dl j
    by_cases c : j = k
    · rw [c, z_u_same]
    · rw [z_u_ne c]; exact h.2.2.2.1 j j1 (by omega)
  · show z_u q.1.2.2.2.2.1 k (dl k) j = 3
    rw [z_u_ne (by omega)]
    exact h.2.2.2.2 j (by omega)
/-- the test as the law makes it: behind n clocks -/
def x_run (c q : z_Ct) (g n wr : Int) : Prop :=
  x_ok q ∧ q.1 = (z_wt c g n.toNat).1.1 ∧ q.2.2.2.2.1 = (z_wt c g n.toNat).1.2.2.2.2.1 ∧ q.2.2.2.2.2.1 < q.1.1 ∧ q.2.2.2.2.2.2.2 = 0 ∧ q.2.1.1 = n ∧ wr = (z_wt c g n.toNat).2 ∧ z_it (fun j a => if q.2.1.2.1 j = q.2.1.2.2.2.1 j then a + 1 else a) 0 n.toNat = n - wr ∧ q.1.1 = n * g
theorem x_run_0 {c : z_Ct} {st g : Int} {dl : Int → Int} (h : x_fr c st dl st) (hst : 1 ≤ st ∧ st ≤ 5) : x_run c c g 0 0 := by
  have e := h.2.2.1
  have e0 := x_fr_st h
  have h0 : (z_wt c g 0).1 = c := by
    show z_anew c c.1.2.1 = c
    rw [e0]
    exact e.symm
  refine ⟨h.1, ?_, ?_, ?_, ?_, ?_, rfl, rfl, ?_⟩
  · show c.1 = (z_wt c g 0).1.1
    rw [h0]
  · show c.2.2.2.2.1 = (z_wt c g 0).1.2.2.2.2.1
    rw [h0]
  · have a := congrArg (fun c : z_Ct => c.2.2.2.2.2.1) e
    have a1 : c.2.2.2.2.2.1 = -1 := a
    rw [a1, h.2.1]
    decide
  · exact congrArg (fun c : z_Ct => c.2.2.2.2.2.2.2) e
  · exact congrArg (fun c : z_Ct => c.2.1.1) e
  · rw [h.2.1, Int.zero_mul]
/-- a clock, nanoseconds, a reading -/
theorem x_run_s {c q : z_Ct} {st g n wr : Int} {dl : Int → Int} (hc : x_fr c st dl st) (hst : 1 ≤ st ∧ st ≤ 5) (hg : 1 ≤ g ∧ g ≤ 50) (hn : 0 ≤ n ∧ n < z_p2 st) (h : x_run c q g n wr) :
    (z_tc q = z_take q ∧ z_tcA q = (n + 1) % z_p2 st) ∧ (z_lp (z_take q) g = z_ps (z_take q) g.toNat ∧ 0 ≤ (z_ps (z_take q) g.toNat).2) ∧ (z_rg (z_ps (z_take q) g.toNat).1).2 = (z_ps (z_take q) g.toNat).1.1.2.2.1 ∧ (z_rg (z_ps (z_take q) g.toNat).1).1.2.2.2.2.1 = (z_ps (z_take q) g.toNat).1.2.2.2.2.1 ∧
    x_run c (z_rg (z_ps (z_take q) g.toNat).1).1 g (n + 1) (wr + (if (z_ps (z_take q) g.toNat).1.1.2.2.1 = (z_ps (z_take q) g.toNat).1.2.2.2.2.1 then 0 else 1)) ∧ (z_take q).1.1 ≤ 9999 ∧ (z_ps (z_take q) g.toNat).1.1.1 ≤ 9999 ∧ z_ok (z_take q) ∧ z_ok (z_ps (z_take q) g.toNat).1 ∧ (z_rg (z_ps (z_take q) g.toNat).1).1.1.1 ≤ 9999 := by
  obtain ⟨h1, h2, h3, h4, h5, h6, h7, h8, h9⟩ := h
  have hp := z_p2_le (k := st) (by omega)
  have e0 := x_fr_st hc
  obtain ⟨w1, w2, w3, w4, w5, w6, w7⟩ := z_wt_ok (ct := c) hc.1.1 hg (by rw [hc.2.1]; decide) n.toNat (by omega)
  obtain ⟨v1, v2⟩ := y_wt_in (ct := c) hc.1.1 hg (by rw [hc.2.1]; decide) n.toNat (by omega)
  have hng : n * g ≤ 32 * 50 := Int.le_trans (Int.mul_le_mul_of_nonneg_right (by omega : n ≤ 32) (by omega)) (Int.mul_le_mul_of_nonneg_left hg.2 (by omega))
  have hng0 : 0 ≤ n * g := Int.mul_nonneg hn.1 (by omega)
  have est : q.1.2.1 = st := by rw [h2, w2, e0]
  have hlc : ¬ q.2.2.2.2.2.1 = q.1.1 := by omega
  have ht := x_take h1 hlc
  have hps := x_ps ht g.toNat
  obtain ⟨p1, p2, p3, p4, p5⟩ := z_ps_aux ht.1 g.toNat
  have tt : (z_take q).1.1 = q.1.1 := rfl
  have pt : (z_ps (z_take q) g.toNat).1.1.1 = n * g + g := by rw [p2, tt, h9]; omega
  obtain ⟨r1, r2⟩ := x_ps_rd (ct := z_take q) h5 g.toNat
  have rr : (z_take q).2.1 = q.2.1 := rfl
  rw [rr] at r1
  have rn : (z_ps (z_take q) g.toNat).1.2.1.1 = n := by rw [r1, h6]
  have eg : z_rg (z_ps (z_take q) g.toNat).1 = (((z_ps (z_take q) g.toNat).1.1, z_rad (z_ps (z_take q) g.toNat).1.2.1 (z_ps (z_take q) g.toNat).1.1.2.2.1 (z_ps (z_take q) g.toNat).1.1.1 (z_ps (z_take q) g.toNat).1.2.2.2.2.1 0, (z_ps (z_take q) g.toNat).1.2.2.1, (z_ps (z_take q) g.toNat).1.2.2.2.1, (z_ps (z_take q) g.toNat).1.2.2.2.2.1, (z_ps (z_take q) g.toNat).1.2.2.2.2.2.1, (z_ps (z_take q) g.toNat).1.2.2.2.2.2.2.1, (z_ps (z_take q) g.toNat).1.2.2.2.2.2.2.2), (z_ps (z_take q) g.toNat).1.1.2.2.1) := by
    unfold z_rg
    rw [if_neg (by rw [rn, r2]; omega)]
  have hrx := x_rg hps (by rw [pt]; omega)
  rw [eg] at hrx ⊢
  have en : (n + 1).toNat = n.toNat + 1 := by omega
  have ew : (z_ps (z_take q) g.toNat).1.1 = (z_wt c g (n.toNat + 1)).1.1 := x_ps_w (x_take_w h2) g.toNat
  have ec1 : (z_ps (z_take q) g.toNat).1.2.2.2.2.1 = (q.2.2.2.2.1 + 1) % z_p2 q.1.2.1 := y_ps_ck (ct := z_take q) g.toNat
  have ec2 : (z_wt c g (n.toNat + 1)).1.2.2.2.2.1 = ((z_wt c g n.toNat).1.2.2.2.2.1 + 1) % z_p2 (z_wt c g n.toNat).1.1.2.1 := y_ps_ck (ct := z_take (z_wt c g n.toNat).1) g.toNat
  have ec : (z_ps (z_take q) g.toNat).1.2.2.2.2.1 = (z_wt c g (n.toNat + 1)).1.2.2.2.2.1 := by rw [ec1, ec2, h3, h2]
  refine ⟨⟨if_neg hlc, ?_⟩, ⟨?_, p4⟩, rfl, rfl, ⟨hrx, ?_, ?_, ?_, r2, ?_, ?_, ?_, ?_⟩, by rw [tt, h9]; omega, by rw [pt]; omega, ht.1, p1, by show (z_ps (z_take q) g.toNat).1.1.1 ≤ 9999; rw [pt]; omega⟩
  · unfold z_tcA
    rw [if_neg hlc, est, h3, v2, e0, show ((n.toNat : Nat) : Int) = n by omega, Int.emod_add_emod]
  · unfold z_lp
    rw [if_pos (by omega), if_pos (by rw [tt, h9]; omega)]
  · rw [en]; exact ew
  · rw [en]; exact ec
  · show (z_ps (z_take q) g.toNat).1.2.2.2.2.2.1 < (z_ps (z_take q) g.toNat).1.1.1
    have e9 : (z_take q).2.2.2.2.2.1 = q.1.1 := rfl
    rw [p3, e9, pt, h9]
    omega
  · show (z_ps (z_take q) g.toNat).1.2.1.1 + 1 = n + 1
    rw [rn]
  · rw [en, z_wt_s, ← h7]
    have e8 : (z_ps (z_take (z_wt c g n.toNat).1) g.toNat).1 = (z_wt c g (n.toNat + 1)).1 := rfl
    rw [e8, ew, ec]
  · rw [en]
    show (if z_u (z_ps (z_take q) g.toNat).1.2.1.2.1 (z_ps (z_take q) g.toNat).1.2.1.1 (z_ps (z_take q) g.toNat).1.1.2.2.1 (n.toNat : Int) = z_u (z_ps (z_take q) g.toNat).1.2.1.2.2.2.1 (z_ps (z_take q) g.toNat).1.2.1.1 (z_ps (z_take q) g.toNat).1.2.2.2.2.1 (n.toNat : Int) then z_it (fun j a => if z_u (z_ps (z_take q) g.toNat).1.2.1.2.1 (z_ps (z_take q) g.toNat).1.2.1.1 (z_ps (z_take q) g.toNat).1.1.2.2.1 j = z_u (z_ps (z_take q) g.toNat).1.2.1.2.2.2.1 (z_ps (z_take q) g.toNat).1.2.1.1 (z_ps (z_take q) g.toNat).1.2.2.2.2.1 j then a + 1 else a) 0 n.toNat + 1 else z_it (fun j a => if z_u (z_ps (z_take q) g.toNat).1.2.1.2.1 (z_ps (z_take q) g.toNat).1.2.1.1 (z_ps (z_take q) g.toNat).1.1.2.2.1 j = z_u (z_ps (z_take q) g.toNat).1.2.1.2.2.2.1 (z_ps (z_take q) g.toNat).1.2.1.1 (z_ps (z_take q) g.toNat).1.2.2.2.2.1 j then a + 1 else a) 0 n.toNat) = _
    have e7 : z_it (fun j a => if z_u (z_ps (z_take q) g.toNat).1.2.1.2.1 (z_ps (z_take q) g.toNat).1.2.1.1 (z_ps (z_take q) g.toNat).1.1.2.2.1 j = z_u (z_ps (z_take q) g.toNat).1.2.1.2.2.2.1 (z_ps (z_take q) g.toNat).1.2.1.1 (z_ps (z_take q) g.toNat).1.2.2.2.2.1 j then a + 1 else a) 0 n.toNat = n - wr := by
      rw [← h8]
      refine z_it_congr _ (fun k a k1 k2 => ?_)
      rw [rn, z_u_ne (by omega), z_u_ne (by omega), r1]
    rw [e7, rn, show (n.toNat : Int) = n by omega, z_u_same, z_u_same]
    split <;> omega
  · show (z_ps (z_take q) g.toNat).1.1.1 = (n + 1) * g
    rw [pt, Int.add_mul, Int.one_mul]
theorem x_run_end {c q : z_Ct} {st g wr : Int} {dl : Int → Int} (hc : x_fr c st dl st) (hst : 1 ≤ st ∧ st ≤ 5) (hg : 1 ≤ g ∧ g ≤ 50) (h : x_run c q g (z_p2 st) wr) : wr = z_wc st dl g := by
  have e0 := x_fr_st hc
  have h1 := z_wt_wc (ct := c) hc.1.1 hg (by rw [hc.2.1]; decide)
  rw [e0] at h1
  rw [h.2.2.2.2.2.2.1, h1]
  exact x_wc_congr (by omega) hc.2.2.2.1
