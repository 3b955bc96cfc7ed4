/-! ===== sums ===== -/
theorem z_S_u (f : Int → Int) (i v a : Int) : ∀ n : Nat, z_S (z_u f i v) a n = if a ≤ i ∧ i < a + n then z_S f a n + (v - f i) else z_S f a n
  | 0 => by rw [if_neg (by omega)]; rfl
  | n + 1 => by
    rw [z_S_succ, z_S_succ, z_S_u f i v a n]
    by_cases q : i = a + n
    · rw [if_neg (by omega), if_pos (by omega), q, z_u_same]; omega
    · rw [z_u_ne (by omega)]
      by_cases q2 : a ≤ i ∧ i < a + n
      · rw [if_pos q2, if_pos (by omega)]; omega
      · rw [if_neg q2, if_neg (by omega)]
theorem z_S_nn {f : Int → Int} {a : Int} : ∀ n : Nat, (∀ i : Int, 0 ≤ i → i < n → 0 ≤ f (a + i)) → 0 ≤ z_S f a n
  | 0, _ => Int.le_refl _
  | n + 1, h => by
    have h1 := z_S_nn n (fun i i1 i2 => h i i1 (by omega))
    have h2 := h n (by omega) (by omega)
    rw [z_S_succ]; omega
theorem z_S_el {f : Int → Int} {a : Int} : ∀ n : Nat, (∀ i : Int, 0 ≤ i → i < n → 0 ≤ f (a + i)) → ∀ j : Int, 0 ≤ j → j < n → f (a + j) ≤ z_S f a n
  | 0, _, j, h1, h2 => by omega
  | n + 1, h, j, h1, h2 => by
    have h3 := z_S_nn n (fun i i1 i2 => h i i1 (by omega))
    have h4 := h n (by omega) (by omega)
    rw [z_S_succ]
    by_cases q : j = n
    · rw [q]; omega
    · have := z_S_el n (fun i i1 i2 => h i i1 (by omega)) j h1 (by omega); omega
theorem z_S_lt {f : Int → Int} {a : Int} : ∀ n : Nat, (∀ i : Int, 0 ≤ i → i < n → f (a + i) ≤ 1) → z_S f a n ≤ n ∧ ((∃ j : Int, 0 ≤ j ∧ j < n ∧ f (a + j) = 0) → z_S f a n < n)
  | 0, _ => ⟨Int.le_refl _, fun ⟨j, j1, j2, _⟩ => by omega⟩
  | n + 1, h => by
    obtain ⟨h1, h2⟩ := z_S_lt n (fun i i1 i2 => h i i1 (by omega))
    have h4 := h n (by omega) (by omega)
    rw [z_S_succ]
    refine ⟨by omega, fun ⟨j, j1, j2, j3⟩ => ?_⟩
    by_cases q : j = n
    · rw [q] at j3; omega
    · have := h2 ⟨j, j1, by omega, j3⟩; omega
theorem y_sok_new {sg : z_Sg} {t : Int} (h : z_sok sg t) : ∀ v : Int, 0 ≤ v → v < 32 → sg.2.2.1 v = 0 → sg.1 < 32 := by
  intro v v1 v2 v3
  rw [h.2.2.2.1]
  have h1 := (z_S_lt (f := fun v => if 0 < sg.2.2.1 v then (1 : Int) else 0) (a := 0) 32 (fun i _ _ => by show (if 0 < sg.2.2.1 (0 + i) then (1 : Int) else 0) ≤ 1; split <;> omega)).2 ⟨v, v1, by omega, by
    show (if 0 < sg.2.2.1 (0 + v) then (1 : Int) else 0) = 0
    rw [Int.zero_add, v3]; rfl⟩
  exact h1
/-! ===== the turnings of a wave ===== -/
theorem y_wok_S {w : z_Wv} {B : Int} (h : z_wok w B) : 0 ≤ B ∧ ∀ n : Nat, n < 5 → ((n : Int) < w.2.1 → w.2.2.2.2.2.1 n ≤ B) ∧ 0 ≤ z_S w.2.2.2.2.2.2 ((n : Int) * 21) 21 ∧ z_S w.2.2.2.2.2.2 ((n : Int) * 21) 21 ≤ B := by
  obtain ⟨ht0, hst, hsh, hdl, hdu, hdn, hB, htot, hbit, hzero, how⟩ := h
  have hnn : ∀ k : Int, 0 ≤ k → k < 5 → 0 ≤ z_S w.2.2.2.2.2.2 (k * 21) 21 := fun k k1 k2 => z_S_nn 21 (fun i i1 i2 => hdu _ (by omega) (by omega))
  have h0 := hnn 0 (by omega) (by omega)
  rw [show (0 : Int) * 21 = 0 by omega] at h0
  have hd0 := hdn 0 (by omega) (by omega)
  refine ⟨by omega, fun n hn => ?_⟩
  induction n with
  | zero =>
    refine ⟨fun _ => by show w.2.2.2.2.2.1 ((0 : Nat) : Int) ≤ B; rw [show ((0 : Nat) : Int) = 0 from rfl]; omega, hnn _ (by omega) (by omega), ?_⟩
    rw [show ((0 : Nat) : Int) * 21 = 0 by omega]; omega
  | succ n ih =>
    obtain ⟨i1, i2, i3⟩ := ih (by omega)
    have h1 := hnn ((n + 1 : Nat) : Int) (by omega) (by omega)
    by_cases q : ((n + 1 : Nat) : Int) < w.2.1
    · have h2 := htot n (by omega) (by omega)
      have h3 := hdn (n : Int) (by omega) (by omega)
      have h4 := hdn ((n : Int) + 1) (by omega) (by omega)
      have h5 := i1 (by omega)
      rw [show ((n + 1 : Nat) : Int) = (n : Int) + 1 by omega] at h1 ⊢
      exact ⟨fun _ => by omega, h1, by omega⟩
    · have h2 : z_S w.2.2.2.2.2.2 (((n + 1 : Nat) : Int) * 21) 21 = 0 := z_S_zero 21 (fun i i1 i2 => hzero _ i (by omega) (by omega) i1 (by omega))
      exact ⟨fun z => absurd z q, h1, by omega⟩
theorem y_wok_du {w : z_Wv} {B : Int} (h : z_wok w B) : ∀ i : Int, 0 ≤ i → i < 105 → w.2.2.2.2.2.2 i ≤ B := by
  intro i i1 i2
  have h1 := (y_wok_S h).2 (i / 21).toNat (by omega)
  have h2 := z_S_el (f := w.2.2.2.2.2.2) (a := ((i / 21).toNat : Int) * 21) 21 (fun j j1 j2 => h.2.2.2.2.1 _ (by omega) (by omega)) (i % 21) (by omega) (by omega)
  rw [show ((i / 21).toNat : Int) * 21 + i % 21 = i by omega] at h2
  omega
theorem y_wok_ow {w : z_Wv} {B : Int} (h : z_wok w B) : 0 ≤ w.2.2.2.1 ∧ w.2.2.2.1 ≤ 5 * B := by
  obtain ⟨-, h1⟩ := y_wok_S h
  have how := h.2.2.2.2.2.2.2.2.2.2
  have e : z_S w.2.2.2.2.2.2 0 105 = z_S w.2.2.2.2.2.2 (((0 : Nat) : Int) * 21) 21 + z_S w.2.2.2.2.2.2 (((1 : Nat) : Int) * 21) 21 + z_S w.2.2.2.2.2.2 (((2 : Nat) : Int) * 21) 21 + z_S w.2.2.2.2.2.2 (((3 : Nat) : Int) * 21) 21 + z_S w.2.2.2.2.2.2 (((4 : Nat) : Int) * 21) 21 := by
    have a1 := z_S_add w.2.2.2.2.2.2 0 21 84
    have a2 := z_S_add w.2.2.2.2.2.2 21 21 63
    have a3 := z_S_add w.2.2.2.2.2.2 42 21 42
    have a4 := z_S_add w.2.2.2.2.2.2 63 21 21
    simp only [show (21 : Nat) + 84 = 105 from rfl, show (21 : Nat) + 63 = 84 from rfl, show (21 : Nat) + 42 = 63 from rfl, show (21 : Nat) + 21 = 42 from rfl, show (0 : Int) + ((21 : Nat) : Int) = 21 from rfl, show (21 : Int) + ((21 : Nat) : Int) = 42 from rfl, show (42 : Int) + ((21 : Nat) : Int) = 63 from rfl, show (63 : Int) + ((21 : Nat) : Int) = 84 from rfl] at a1 a2 a3 a4
    show _ = z_S w.2.2.2.2.2.2 0 21 + z_S w.2.2.2.2.2.2 21 21 + z_S w.2.2.2.2.2.2 42 21 + z_S w.2.2.2.2.2.2 63 21 + z_S w.2.2.2.2.2.2 84 21
    omega
  have b0 := h1 0 (by omega)
  have b1 := h1 1 (by omega)
  have b2 := h1 2 (by omega)
  have b3 := h1 3 (by omega)
  have b4 := h1 4 (by omega)
  omega
theorem y_dst : ∀ s : Nat, s < 6 → ∀ x : Nat, x < 2 ^ s → ∀ k : Nat, k < s → ∀ d : Nat, d < 2 → 0 ≤ (x : Int) - ((x : Int) / ((2 ^ k : Nat) : Int)) % 2 * ((2 ^ k : Nat) : Int) + (d : Int) * ((2 ^ k : Nat) : Int) ∧ (x : Int) - ((x : Int) / ((2 ^ k : Nat) : Int)) % 2 * ((2 ^ k : Nat) : Int) + (d : Int) * ((2 ^ k : Nat) : Int) < ((2 ^ s : Nat) : Int) := by decide +kernel
theorem y_sh_set {x k d s : Int} (hs : 0 ≤ s ∧ s ≤ 5) (hx : 0 ≤ x ∧ x < z_p2 s) (hk : 0 ≤ k ∧ k < s) (hd : 0 ≤ d ∧ d < 2) : 0 ≤ x - z_bit x k * z_p2 k + d * z_p2 k ∧ x - z_bit x k * z_p2 k + d * z_p2 k < z_p2 s := by
  obtain ⟨x, rfl⟩ := Int.eq_ofNat_of_zero_le hx.1
  obtain ⟨k, rfl⟩ := Int.eq_ofNat_of_zero_le hk.1
  obtain ⟨d, rfl⟩ := Int.eq_ofNat_of_zero_le hd.1
  obtain ⟨s, rfl⟩ := Int.eq_ofNat_of_zero_le hs.1
  unfold z_bit
  rw [z_p2_nat, z_p2_nat] at *
  exact y_dst s (by omega) x (by omega) k (by omega) d (by omega)
theorem y_td_s {t st sh ow B k acc : Int} {dl dn du : Int → Int} (h : z_wok (t, st, sh, ow, dl, dn, du) B) (hk : 0 ≤ k ∧ k < st) (ha : 0 ≤ acc ∧ acc ≤ k * B) : (0 ≤ (z_tdS t st dl k (acc, sh, ow, dn, du)).1 ∧ (z_tdS t st dl k (acc, sh, ow, dn, du)).1 ≤ (k + 1) * B) ∧ z_wok (t, st, (z_tdS t st dl k (acc, sh, ow, dn, du)).2.1, (z_tdS t st dl k (acc, sh, ow, dn, du)).2.2.1, dl, (z_tdS t st dl k (acc, sh, ow, dn, du)).2.2.2.1, (z_tdS t st dl k (acc, sh, ow, dn, du)).2.2.2.2) B := by
  have hB0 := (y_wok_S h).1
  have hduB := y_wok_du h
  have hkB : (k + 1) * B = k * B + B := by rw [Int.add_mul, Int.one_mul]
  obtain ⟨ht0, hst, hsh, hdl, hdu, hdn, hB, htot, hbit, hzero, how⟩ := id h
  dsimp only at ht0 hst hsh hdl hdu hdn hB htot hbit hzero how hduB
  by_cases q : 0 < du (k * 21 + t % 21)
  · have hm := hduB (k * 21 + t % 21) (by omega) (by omega)
    have hp := z_p2_le (k := st) (by omega)
    have hbk := hbit k hk.1 hk.2
    have hdk := hdn k hk.1 (by omega)
    have hset := y_sh_set (x := sh) (k := k) (d := (z_bit sh k + du (k * 21 + t % 21)) % 2) (s := st) (by omega) hsh hk (by omega)
    have hbs := fun (j : Int) (j1 : 0 ≤ j) (j2 : j < 5) => z_bit_set (x := sh) (k := k) (d := (z_bit sh k + du (k * 21 + t % 21)) % 2) (j := j) (by omega) (by omega) (by omega) ⟨j1, j2⟩
    generalize hmm : du (k * 21 + t % 21) = m at *
    generalize hss : sh - z_bit sh k * z_p2 k + (z_bit sh k + m) % 2 * z_p2 k = sh' at *
    have q' : 0 < (acc, sh, ow, dn, du).2.2.2.2 (k * 21 + t % 21) := by show 0 < du (k * 21 + t % 21); omega
    by_cases q2 : k + 1 < st
    · rw [z_tdS_1 q' q2]
      dsimp only
      rw [hmm, hss]
      have hd1 := hdl (k + 1) (by omega) (by omega)
      unfold z_bg
      rw [z_u_ne (show ¬ (k + 1) * 21 + (t + dl (k + 1)) % 21 = k * 21 + t % 21 by omega)]
      generalize hxx : (z_bit sh k + m) / 2 = x at *
      have hold := hdu ((k + 1) * 21 + (t + dl (k + 1)) % 21) (by omega) (by omega)
      generalize hbb : (k + 1) * 21 + (t + dl (k + 1)) % 21 = b at *
      have hx0 : 0 ≤ x := by omega
      refine ⟨by omega, ht0, hst, hset, hdl, ?_, ?_, ?_, ?_, ?_, ?_, ?_⟩
      · intro i i1 i2
        show 0 ≤ z_u (z_u du (k * 21 + t % 21) 0) b (du b + x) i
        by_cases c1 : i = b
        · rw [c1, z_u_same]; omega
        · rw [z_u_ne c1]
          by_cases c2 : i = k * 21 + t % 21
          · rw [c2, z_u_same]; omega
          · rw [z_u_ne c2]; exact hdu i i1 i2
      · intro j j1 j2
        show 0 ≤ z_u dn k (dn k + m) j
        by_cases c : j = k
        · rw [c, z_u_same]; omega
        · rw [z_u_ne c]; exact hdn j j1 j2
      · show z_u dn k (dn k + m) 0 + z_S (z_u (z_u du (k * 21 + t % 21) 0) b (du b + x)) 0 21 ≤ B
        rw [z_S_u, if_neg (by omega), z_S_u]
        by_cases c : k = 0
        · rw [if_pos (by omega), hmm, c, z_u_same]; rw [c] at hmm; omega
        · rw [if_neg (by omega), z_u_ne (by omega)]; exact hB
      · intro j j1 j2
        show z_u dn k (dn k + m) (j + 1) + z_S (z_u (z_u du (k * 21 + t % 21) 0) b (du b + x)) ((j + 1) * 21) 21 = z_u dn k (dn k + m) j / 2
        have hj := htot j j1 j2
        rw [z_S_u, z_u_ne (show ¬ b = k * 21 + t % 21 by omega), z_S_u]
        by_cases c : j = k
        · rw [if_pos (by omega), if_neg (by omega), c, z_u_same, z_u_ne (by omega)]
          rw [c] at hj; omega
        · rw [if_neg (by omega)]
          by_cases c2 : j + 1 = k
          · rw [if_pos (by omega), hmm, c2, z_u_same, z_u_ne (by omega)]
            rw [c2] at hj; omega
          · rw [if_neg (by omega), z_u_ne c2, z_u_ne c]; exact hj
      · intro j j1 j2
        show z_bit sh' j = z_u dn k (dn k + m) j % 2
        have j2' : j < st := j2
        rw [hbs j j1 (by omega)]
        by_cases c : j = k
        · rw [if_pos c, c, z_u_same]; omega
        · rw [if_neg c, z_u_ne c]; exact hbit j j1 j2
      · intro j i j1 j2 i1 i2
        show z_u (z_u du (k * 21 + t % 21) 0) b (du b + x) (j * 21 + i) = 0
        have j1' : st ≤ j := j1
        rw [z_u_ne (by omega), z_u_ne (by omega)]
        exact hzero j i j1 j2 i1 i2
      · show ow - m + x = z_S (z_u (z_u du (k * 21 + t % 21) 0) b (du b + x)) 0 105
        rw [z_S_u, if_pos (by omega), z_u_ne (show ¬ b = k * 21 + t % 21 by omega), z_S_u, if_pos (by omega), hmm]
        omega
    · rw [z_tdS_2 q' q2]
      dsimp only
      rw [hmm, hss]
      refine ⟨by omega, ht0, hst, hset, hdl, ?_, ?_, ?_, ?_, ?_, ?_, ?_⟩
      · intro i i1 i2
        show 0 ≤ z_u du (k * 21 + t % 21) 0 i
        by_cases c2 : i = k * 21 + t % 21
        · rw [c2, z_u_same]; omega
        · rw [z_u_ne c2]; exact hdu i i1 i2
      · intro j j1 j2
        show 0 ≤ z_u dn k (dn k + m) j
        by_cases c : j = k
        · rw [c, z_u_same]; omega
        · rw [z_u_ne c]; exact hdn j j1 j2
      · show z_u dn k (dn k + m) 0 + z_S (z_u du (k * 21 + t % 21) 0) 0 21 ≤ B
        rw [z_S_u]
        by_cases c : k = 0
        · rw [if_pos (by omega), hmm, c, z_u_same]; rw [c] at hmm; omega
        · rw [if_neg (by omega), z_u_ne (by omega)]; exact hB
      · intro j j1 j2
        have j2' : j + 1 < st := j2
        show z_u dn k (dn k + m) (j + 1) + z_S (z_u du (k * 21 + t % 21) 0) ((j + 1) * 21) 21 = z_u dn k (dn k + m) j / 2
        have hj := htot j j1 j2
        rw [z_S_u]
        by_cases c2 : j + 1 = k
        · rw [if_pos (by omega), hmm, c2, z_u_same, z_u_ne (by omega)]
          rw [c2] at hj; omega
        · rw [if_neg (by omega), z_u_ne c2, z_u_ne (by omega)]; exact hj
      · intro j j1 j2
        show z_bit sh' j = z_u dn k (dn k + m) j % 2
        have j2' : j < st := j2
        rw [hbs j j1 (by omega)]
        by_cases c : j = k
        · rw [if_pos c, c, z_u_same]; omega
        · rw [if_neg c, z_u_ne c]; exact hbit j j1 j2
      · intro j i j1 j2 i1 i2
        show z_u du (k * 21 + t % 21) 0 (j * 21 + i) = 0
        have j1' : st ≤ j := j1
        rw [z_u_ne (by omega)]
        exact hzero j i j1 j2 i1 i2
      · show ow - m = z_S (z_u du (k * 21 + t % 21) 0) 0 105
        rw [z_S_u, if_pos (by omega), hmm]
        omega
  · rw [z_tdS_3 (r := (acc, sh, ow, dn, du)) q]
    exact ⟨by dsimp only; omega, h⟩
theorem y_td_I {w : z_Wv} {B : Int} (h : z_wok w B) : ∀ n : Nat, (n : Int) ≤ w.2.1 → (0 ≤ (z_it (z_tdS w.1 w.2.1 w.2.2.2.2.1) (0, w.2.2.1, w.2.2.2.1, w.2.2.2.2.2.1, w.2.2.2.2.2.2) n).1 ∧ (z_it (z_tdS w.1 w.2.1 w.2.2.2.2.1) (0, w.2.2.1, w.2.2.2.1, w.2.2.2.2.2.1, w.2.2.2.2.2.2) n).1 ≤ (n : Int) * B) ∧
    z_wok (w.1, w.2.1, (z_it (z_tdS w.1 w.2.1 w.2.2.2.2.1) (0, w.2.2.1, w.2.2.2.1, w.2.2.2.2.2.1, w.2.2.2.2.2.2) n).2.1, (z_it (z_tdS w.1 w.2.1 w.2.2.2.2.1) (0, w.2.2.1, w.2.2.2.1, w.2.2.2.2.2.1, w.2.2.2.2.2.2) n).2.2.1, w.2.2.2.2.1, (z_it (z_tdS w.1 w.2.1 w.2.2.2.2.1) (0, w.2.2.1, w.2.2.2.1, w.2.2.2.2.2.1, w.2.2.2.2.2.2) n).2.2.2.1, (z_it (z_tdS w.1 w.2.1 w.2.2.2.2.1) (0, w.2.2.1, w.2.2.2.1, w.2.2.2.2.2.1, w.2.2.2.2.2.2) n).2.2.2.2) B
  | 0, _ => ⟨⟨Int.le_refl _, by show (0 : Int) ≤ ((0 : Nat) : Int) * B; simp⟩, h⟩
  | n + 1, hn => by
    obtain ⟨h1, h2⟩ := y_td_I h n (by omega)
    have h3 := y_td_s h2 (k := (n : Int)) ⟨by omega, by show (n : Int) < w.2.1; omega⟩ h1
    rw [show ((n + 1 : Nat) : Int) = (n : Int) + 1 by omega]
    exact h3
