/-! ===== the words of a counter: what is saved and undone ===== -/
abbrev z_Wv : Type := Int × Int × Int × Int × (Int → Int) × (Int → Int) × (Int → Int)
abbrev z_Rd : Type := Int × (Int → Int) × (Int → Int) × (Int → Int) × (Int → Int)
abbrev z_Sg : Type := Int × (Int → Int) × (Int → Int) × (Int → Int) × (Int → Int)
abbrev z_Ct : Type := z_Wv × z_Rd × z_Sg × Int × Int × Int × Int × Int
/-- the turnings that are due at a time are done -/
def z_tdR (ct : z_Ct) : z_R := z_it (z_tdS ct.1.1 ct.1.2.1 ct.1.2.2.2.2.1) (0, ct.1.2.2.1, ct.1.2.2.2.1, ct.1.2.2.2.2.2.1, ct.1.2.2.2.2.2.2) ct.1.2.1.toNat
def z_rad (rd : z_Rd) (nb tm cn lt : Int) : z_Rd := (rd.1 + 1, z_u rd.2.1 rd.1 nb, z_u rd.2.2.1 rd.1 tm, z_u rd.2.2.2.1 rd.1 cn, z_u rd.2.2.2.2 rd.1 lt)
def z_sad (sg : z_Sg) (nb tm fb : Int) : z_Sg := (if sg.2.2.1 nb = 0 then sg.1 + 1 else sg.1, if sg.2.2.1 nb = 0 then z_u sg.2.1 sg.1 nb else sg.2.1, z_u sg.2.2.1 nb (sg.2.2.1 nb + 1), if fb = 0 then sg.2.2.2.1 else z_u sg.2.2.2.1 nb (sg.2.2.2.1 nb + 1), if sg.2.2.1 nb = 0 then z_u sg.2.2.2.2 nb tm else sg.2.2.2.2)
/-- a nanosecond, by what was done in it: the sightings, the last time, whether a latch closes -/
def z_nsg (ct : z_Ct) (r : z_R) : z_Sg := if 0 < r.1 then z_sad ct.2.2.1 r.2.1 ct.1.1 (if r.2.1 = ct.2.2.2.2.1 then 0 else 1) else ct.2.2.1
def z_nld (ct : z_Ct) (r : z_R) : Int := if 0 < r.1 then ct.1.1 else ct.2.2.2.2.2.2.1
abbrev z_ncl (ct : z_Ct) (r : z_R) : Prop := ¬ ct.2.2.2.2.2.2.2 = 0 ∧ (r.2.2.1 = 0 ∧ (z_nld ct r = -1 ∨ ct.2.2.2.1 ≤ ct.1.1 - z_nld ct r))
def z_nanoR (ct : z_Ct) (r : z_R) : z_Ct := ((ct.1.1 + 1, ct.1.2.1, r.2.1, r.2.2.1, ct.1.2.2.2.2.1, r.2.2.2.1, r.2.2.2.2), (if z_ncl ct r then z_rad ct.2.1 r.2.1 ct.1.1 ct.2.2.2.2.1 1 else ct.2.1), z_nsg ct r, ct.2.2.2.1, ct.2.2.2.2.1, ct.2.2.2.2.2.1, z_nld ct r, (if z_ncl ct r then 0 else ct.2.2.2.2.2.2.2))
def z_nano (ct : z_Ct) : z_Ct := z_nanoR ct (z_tdR ct)
theorem z_nanoR_c {ct : z_Ct} {r : z_R} (h : z_ncl ct r) : z_nanoR ct r = ((ct.1.1 + 1, ct.1.2.1, r.2.1, r.2.2.1, ct.1.2.2.2.2.1, r.2.2.2.1, r.2.2.2.2), z_rad ct.2.1 r.2.1 ct.1.1 ct.2.2.2.2.1 1, z_nsg ct r, ct.2.2.2.1, ct.2.2.2.2.1, ct.2.2.2.2.2.1, z_nld ct r, 0) := by
  unfold z_nanoR
  rw [if_pos h, if_pos h]
theorem z_nanoR_n {ct : z_Ct} {r : z_R} (h : ¬ z_ncl ct r) : z_nanoR ct r = ((ct.1.1 + 1, ct.1.2.1, r.2.1, r.2.2.1, ct.1.2.2.2.2.1, r.2.2.2.1, r.2.2.2.2), ct.2.1, z_nsg ct r, ct.2.2.2.1, ct.2.2.2.2.1, ct.2.2.2.2.2.1, z_nld ct r, ct.2.2.2.2.2.2.2) := by
  unfold z_nanoR
  rw [if_neg h, if_neg h]
theorem z_nsg_y {ct : z_Ct} {r : z_R} (h : 0 < r.1) : z_nsg ct r = z_sad ct.2.2.1 r.2.1 ct.1.1 (if r.2.1 = ct.2.2.2.2.1 then 0 else 1) := if_pos h
theorem z_nsg_n {ct : z_Ct} {r : z_R} (h : ¬ 0 < r.1) : z_nsg ct r = ct.2.2.1 := if_neg h
theorem z_nld_y {ct : z_Ct} {r : z_R} (h : 0 < r.1) : z_nld ct r = ct.1.1 := if_pos h
theorem z_nld_n {ct : z_Ct} {r : z_R} (h : ¬ 0 < r.1) : z_nld ct r = ct.2.2.2.2.2.2.1 := if_neg h
/-- a clock -/
def z_take (ct : z_Ct) : z_Ct := ((ct.1.1, ct.1.2.1, ct.1.2.2.1, ct.1.2.2.2.1 + 1, ct.1.2.2.2.2.1, ct.1.2.2.2.2.2.1, z_bg ct.1.1 ct.1.2.2.2.2.1 0 1 ct.1.2.2.2.2.2.2), ct.2.1, ct.2.2.1, ct.2.2.2.1, (ct.2.2.2.2.1 + 1) % z_p2 ct.1.2.1, ct.1.1, ct.2.2.2.2.2.2.1, ct.2.2.2.2.2.2.2)
def z_tc (ct : z_Ct) : z_Ct := if ct.2.2.2.2.2.1 = ct.1.1 then ct else z_take ct
def z_tcA (ct : z_Ct) : Int := if ct.2.2.2.2.2.1 = ct.1.1 then -5 else (ct.2.2.2.2.1 + 1) % z_p2 ct.1.2.1
/-- nanoseconds: the counter, and how many turnings -/
def z_ps (ct : z_Ct) (n : Nat) : z_Ct × Int := z_it (fun _ q => (z_nano q.1, q.2 + (z_tdR q.1).1)) (ct, 0) n
def z_lp (ct : z_Ct) (k : Int) : z_Ct × Int := if 1 ≤ k ∧ k ≤ 99 then (if ct.1.1 + k ≤ 9999 then z_ps ct k.toNat else (ct, -5)) else (ct, -2)
/-- a clock and a nanosecond -/
def z_cap (ct : z_Ct) : z_Ct × Int := if 9999 ≤ ct.1.1 ∨ ct.2.2.2.2.2.1 = ct.1.1 then (ct, -5) else (z_nano (z_take ct), (z_tdR (z_take ct)).1)
def z_rg (ct : z_Ct) : z_Ct × Int := if 99 ≤ ct.2.1.1 + ct.2.2.2.2.2.2.2 then (ct, -4) else ((ct.1, z_rad ct.2.1 ct.1.2.2.1 ct.1.1 ct.2.2.2.2.1 0, ct.2.2.1, ct.2.2.2.1, ct.2.2.2.2.1, ct.2.2.2.2.2.1, ct.2.2.2.2.2.2.1, ct.2.2.2.2.2.2.2), ct.1.2.2.1)
def z_sl (ct : z_Ct) : z_Ct × Int := if ¬ ct.2.2.2.2.2.2.2 = 0 then (ct, -5) else if 99 ≤ ct.2.1.1 then (ct, -4) else ((ct.1, ct.2.1, ct.2.2.1, ct.2.2.2.1, ct.2.2.2.2.1, ct.2.2.2.2.2.1, ct.2.2.2.2.2.2.1, 1), 1)
def z_anew (ct : z_Ct) (k : Int) : z_Ct := ((ct.1.1, k, 0, 0, ct.1.2.2.2.2.1, (fun _ => 0), (fun _ => 0)), (0, ct.2.1.2.1, ct.2.1.2.2.1, ct.2.1.2.2.2.1, ct.2.1.2.2.2.2), (0, ct.2.2.1.2.1, (fun _ => 0), (fun _ => 0), ct.2.2.1.2.2.2.2), ct.2.2.2.1, 0, -1, -1, 0)
def z_cs (ct : z_Ct) (k : Int) : z_Ct × Int := if 1 ≤ k ∧ k ≤ 5 then (z_anew ct k, ct.1.2.1) else (ct, -2)
def z_chh (ct : z_Ct) (k : Int) : z_Ct × Int := if 0 ≤ k ∧ k ≤ 20 then ((ct.1, ct.2.1, ct.2.2.1, k, ct.2.2.2.2.1, ct.2.2.2.2.2.1, ct.2.2.2.2.2.2.1, ct.2.2.2.2.2.2.2), ct.2.2.2.1) else (ct, -2)
def z_chg (ct : z_Ct) (w k : Int) : z_Ct × Int := if w = 0 then z_cs ct k else if w = 1 then z_chh ct k else (ct, -2)
def z_cd (ct : z_Ct) (k v : Int) : z_Ct × Int := if 0 ≤ k ∧ k < ct.1.2.1 then (if 1 ≤ v ∧ v ≤ 20 then (((ct.1.1, ct.1.2.1, ct.1.2.2.1, ct.1.2.2.2.1, z_u ct.1.2.2.2.2.1 k v, ct.1.2.2.2.2.2.1, ct.1.2.2.2.2.2.2), ct.2.1, ct.2.2.1, ct.2.2.2.1, ct.2.2.2.2.1, ct.2.2.2.2.2.1, ct.2.2.2.2.2.2.1, ct.2.2.2.2.2.2.2), ct.1.2.2.2.2.1 k) else (ct, -2)) else (ct, -1)
/-! ===== what always holds of a counter ===== -/
def z_S (f : Int → Int) (a : Int) (n : Nat) : Int := z_it (fun j x => x + f (a + j)) 0 n
def z_wok (w : z_Wv) (B : Int) : Prop :=
  0 ≤ w.1 ∧ (1 ≤ w.2.1 ∧ w.2.1 ≤ 5) ∧ (0 ≤ w.2.2.1 ∧ w.2.2.1 < z_p2 w.2.1) ∧ (∀ i : Int, 0 ≤ i → i < 5 → 1 ≤ w.2.2.2.2.1 i ∧ w.2.2.2.2.1 i ≤ 20) ∧ (∀ i : Int, 0 ≤ i → i < 105 → 0 ≤ w.2.2.2.2.2.2 i) ∧ (∀ k : Int, 0 ≤ k → k < 5 → 0 ≤ w.2.2.2.2.2.1 k) ∧
  w.2.2.2.2.2.1 0 + z_S w.2.2.2.2.2.2 0 21 ≤ B ∧ (∀ k : Int, 0 ≤ k → k + 1 < w.2.1 → w.2.2.2.2.2.1 (k + 1) + z_S w.2.2.2.2.2.2 ((k + 1) * 21) 21 = w.2.2.2.2.2.1 k / 2) ∧ (∀ k : Int, 0 ≤ k → k < w.2.1 → z_bit w.2.2.1 k = w.2.2.2.2.2.1 k % 2) ∧
  (∀ k i : Int, w.2.1 ≤ k → k < 5 → 0 ≤ i → i < 21 → w.2.2.2.2.2.2 (k * 21 + i) = 0) ∧ w.2.2.2.1 = z_S w.2.2.2.2.2.2 0 105
def z_rok (rd : z_Rd) (t : Int) : Prop :=
  (0 ≤ rd.1 ∧ rd.1 ≤ 99) ∧ (∀ i : Int, 0 ≤ i → i < rd.1 → (0 ≤ rd.2.1 i ∧ rd.2.1 i < 32) ∧ (0 ≤ rd.2.2.2.1 i ∧ rd.2.2.2.1 i < 32) ∧ (0 ≤ rd.2.2.1 i ∧ rd.2.2.1 i ≤ t)) ∧ (∀ i : Int, 0 ≤ i → i < 99 → rd.2.2.2.2 i = 0 ∨ rd.2.2.2.2 i = 1)
def z_sok (sg : z_Sg) (t : Int) : Prop :=
  (0 ≤ sg.1 ∧ sg.1 ≤ 32) ∧ (∀ i : Int, 0 ≤ i → i < sg.1 → (0 ≤ sg.2.1 i ∧ sg.2.1 i < 32) ∧ 0 < sg.2.2.1 (sg.2.1 i)) ∧ (∀ v : Int, 0 ≤ v → v < 32 → (0 ≤ sg.2.2.1 v ∧ sg.2.2.1 v ≤ t) ∧ (0 ≤ sg.2.2.2.1 v ∧ sg.2.2.2.1 v ≤ sg.2.2.1 v)) ∧
  sg.1 = z_S (fun v => if 0 < sg.2.2.1 v then 1 else 0) 0 32 ∧ (∀ i j : Int, 0 ≤ i → i < j → j < sg.1 → ¬ sg.2.1 i = sg.2.1 j) ∧ (∀ v : Int, 0 ≤ v → v < 32 → 0 < sg.2.2.1 v → ∃ i : Int, 0 ≤ i ∧ i < sg.1 ∧ sg.2.1 i = v)
def z_ok (ct : z_Ct) : Prop :=
  z_wok ct.1 (ct.2.2.2.2.2.1 + 1) ∧ z_rok ct.2.1 ct.1.1 ∧ z_sok ct.2.2.1 ct.1.1 ∧ (0 ≤ ct.2.2.2.1 ∧ ct.2.2.2.1 ≤ 20) ∧ (0 ≤ ct.2.2.2.2.1 ∧ ct.2.2.2.2.1 < z_p2 ct.1.2.1) ∧ (-1 ≤ ct.2.2.2.2.2.1 ∧ ct.2.2.2.2.2.1 ≤ ct.1.1) ∧ (-1 ≤ ct.2.2.2.2.2.2.1 ∧ ct.2.2.2.2.2.2.1 ≤ ct.1.1 - 1) ∧ (ct.2.2.2.2.2.2.2 = 0 ∨ ct.2.2.2.2.2.2.2 = 1) ∧ ct.2.1.1 + ct.2.2.2.2.2.2.2 ≤ 99
theorem z_S_succ (f : Int → Int) (a : Int) (n : Nat) : z_S f a (n + 1) = z_S f a n + f (a + n) := rfl
theorem z_S_congr {f g : Int → Int} {a b : Int} : ∀ n : Nat, (∀ i : Int, 0 ≤ i → i < n → f (a + i) = g (b + i)) → z_S f a n = z_S g b n
  | 0, _ => rfl
  | n + 1, h => by
    rw [z_S_succ, z_S_succ, z_S_congr n (fun i h1 h2 => h i h1 (by omega)), h n (by omega) (by omega)]
theorem z_S_add (f : Int → Int) (a : Int) (n : Nat) : ∀ k : Nat, z_S f a (n + k) = z_S f a n + z_S f (a + n) k
  | 0 => by
    show z_S f a n = z_S f a n + 0
    omega
  | k + 1 => by
    rw [show n + (k + 1) = (n + k) + 1 by omega, z_S_succ, z_S_add f a n k, z_S_succ, show a + ((n + k : Nat) : Int) = a + (n : Int) + (k : Int) by omega]
    omega
theorem z_S_zero {f : Int → Int} {a : Int} : ∀ n : Nat, (∀ i : Int, 0 ≤ i → i < n → f (a + i) = 0) → z_S f a n = 0
  | 0, _ => rfl
  | n + 1, h => by
    rw [z_S_succ, z_S_zero n (fun i h1 h2 => h i h1 (by omega)), h n (by omega) (by omega)]
    rfl
theorem z_dbs : ∀ x : Nat, x < 32 → ∀ k : Nat, k < 5 → ∀ d : Nat, d < 2 → ∀ j : Nat, j < 5 → ((x : Int) - ((x : Int) / ((2 ^ k : Nat) : Int)) % 2 * ((2 ^ k : Nat) : Int) + (d : Int) * ((2 ^ k : Nat) : Int)) / ((2 ^ j : Nat) : Int) % 2 = if j = k then (d : Int) else (x : Int) / ((2 ^ j : Nat) : Int) % 2 := by decide +kernel
theorem z_bit_set {x k d j : Int} (hx : 0 ≤ x ∧ x < 32) (hk : 0 ≤ k ∧ k < 5) (hd : 0 ≤ d ∧ d < 2) (hj : 0 ≤ j ∧ j < 5) : z_bit (x - z_bit x k * z_p2 k + d * z_p2 k) j = if j = k then d else z_bit x j := by
  obtain ⟨a, rfl⟩ := Int.eq_ofNat_of_zero_le hx.1
  obtain ⟨n, rfl⟩ := Int.eq_ofNat_of_zero_le hk.1
  obtain ⟨y, rfl⟩ := Int.eq_ofNat_of_zero_le hd.1
  obtain ⟨i, rfl⟩ := Int.eq_ofNat_of_zero_le hj.1
  have h := z_dbs a (by omega) n (by omega) y (by omega) i (by omega)
  unfold z_bit
  rw [z_p2_nat, z_p2_nat, h]
  by_cases q : i = n
  · rw [if_pos q, if_pos (by omega)]
  · rw [if_neg q, if_neg (by omega)]
theorem z_bit0 (k : Int) : z_bit 0 k = 0 := by
  unfold z_bit
  rw [Int.zero_ediv]
  rfl
/-! ===== sums ===== -/
theorem z_S_u (f : Int → Int) (i v a : Int) : ∀ n : Nat, z_S (z_u f i v) a n = if a ≤ i ∧ i < a + n then z_S f a n + (v - f i) else z_S f a n
  | 0 => by rw [if_neg (by omega)]; rfl
  | n + 1 => by
    rw [z_S_succ, z_S_succ, z_S_u f i v a n]
    by_cases q : i = a + n
    · rw [if_neg (by omega), if_pos (by omega), q, z_u_same]; omega
    · rw [z_u_ne (by omega)]
      by_cases q2 : a ≤ i ∧ i < a + n
      · rw [if_pos q2, if_pos (by omega)]; omega
      · rw [if_neg q2, if_neg (by omega)]
theorem z_S_nn {f : Int → Int} {a : Int} : ∀ n : Nat, (∀ i : Int, 0 ≤ i → i < n → 0 ≤ f (a + i)) → 0 ≤ z_S f a n
  | 0, _ => Int.le_refl _
  | n + 1, h => by
    have h1 := z_S_nn n (fun i i1 i2 => h i i1 (by omega))
    have h2 := h n (by omega) (by omega)
    rw [z_S_succ]; omega
theorem z_S_el {f : Int → Int} {a : Int} : ∀ n : Nat, (∀ i : Int, 0 ≤ i → i < n → 0 ≤ f (a + i)) → ∀ j : Int, 0 ≤ j → j < n → f (a + j) ≤ z_S f a n
  | 0, _, j, h1, h2 => by omega
  | n + 1, h, j, h1, h2 => by
    have h3 := z_S_nn n (fun i i1 i2 => h i i1 (by omega))
    have h4 := h n (by omega) (by omega)
    rw [z_S_succ]
    by_cases q : j = n
    · rw [q]; omega
    · have := z_S_el n (fun i i1 i2 => h i i1 (by omega)) j h1 (by omega); omega
theorem z_S_lt {f : Int → Int} {a : Int} : ∀ n : Nat, (∀ i : Int, 0 ≤ i → i < n → f (a + i) ≤ 1) → z_S f a n ≤ n ∧ ((∃ j : Int, 0 ≤ j ∧ j < n ∧ f (a + j) = 0) → z_S f a n < n)
  | 0, _ => ⟨Int.le_refl _, fun ⟨j, j1, j2, _⟩ => by omega⟩
  | n + 1, h => by
    obtain ⟨h1, h2⟩ := z_S_lt n (fun i i1 i2 => h i i1 (by omega))
    have h4 := h n (by omega) (by omega)
    rw [z_S_succ]
    refine ⟨by omega, fun ⟨j, j1, j2, j3⟩ => ?_⟩
    by_cases q : j = n
    · rw [q] at j3; omega
    · have := h2 ⟨j, j1, by omega, j3⟩; omega
theorem z_sok_new {sg : z_Sg} {t : Int} (h : z_sok sg t) : ∀ v : Int, 0 ≤ v → v < 32 → sg.2.2.1 v = 0 → sg.1 < 32 := by
  intro v v1 v2 v3
  rw [h.2.2.2.1]
  have h1 := (z_S_lt (f := fun v => if 0 < sg.2.2.1 v then (1 : Int) else 0) (a := 0) 32 (fun i _ _ => by show (if 0 < sg.2.2.1 (0 + i) then (1 : Int) else 0) ≤ 1; split <;> omega)).2 ⟨v, v1, by omega, by
    show (if 0 < sg.2.2.1 (0 + v) then (1 : Int) else 0) = 0
    rw [Int.zero_add, v3]; rfl⟩
  exact h1
/-! ===== the turnings of a wave ===== -/
theorem y_wok_S {w : z_Wv} {B : Int} (h : z_wok w B) : 0 ≤ B ∧ ∀ n : Nat, n < 5 → ((n : Int) < w.2.1 → w.2.2.2.2.2.1 n ≤ B) ∧ 0 ≤ z_S w.2.2.2.2.2.2 ((n : Int) * 21) 21 ∧ z_S w.2.2.2.2.2.2 ((n : Int) * 21) 21 ≤ B := by
  obtain ⟨ht0, hst, hsh, hdl, hdu, hdn, hB, htot, hbit, hzero, how⟩ := h
  have hnn : ∀ k : Int, 0 ≤ k → k < 5 → 0 ≤ z_S w.2.2.2.2.2.2 (k * 21) 21 := fun k k1 k2 => z_S_nn 21 (fun i i1 i2 => hdu _ (by omega) (by omega))
  have h0 := hnn 0 (by omega) (by omega)
  rw [show (0 : Int) * 21 = 0 by omega] at h0
  have hd0 := hdn 0 (by omega) (by omega)
  refine ⟨by omega, fun n hn => ?_⟩
  induction n with
  | zero =>
    refine ⟨fun _ => by show w.2.2.2.2.2.1 ((0 : Nat) : Int) ≤ B; rw [show ((0 : Nat) : Int) = 0 from rfl]; omega, hnn _ (by omega) (by omega), ?_⟩
    rw [show ((0 : Nat) : Int) * 21 = 0 by omega]; omega
  | succ n ih =>
    obtain ⟨i1, i2, i3⟩ := ih (by omega)
    have h1 := hnn ((n + 1 : Nat) : Int) (by omega) (by omega)
    by_cases q : ((n + 1 : Nat) : Int) < w.2.1
    · have h2 := htot n (by omega) (by omega)
      have h3 := hdn (n : Int) (by omega) (by omega)
      have h4 := hdn ((n : Int) + 1) (by omega) (by omega)
      have h5 := i1 (by omega)
      rw [show ((n + 1 : Nat) : Int) = (n : Int) + 1 by omega] at h1 ⊢
      exact ⟨fun _ => by omega, h1, by omega⟩
    · have h2 : z_S w.2.2.2.2.2.2 (((n + 1 : Nat) : Int) * 21) 21 = 0 := z_S_zero 21 (fun i i1 i2 => hzero _ i (by omega) (by omega) i1 (by omega))
      exact ⟨fun z => absurd z q, h1, by omega⟩
theorem z_wok_du {w : z_Wv} {B : Int} (h : z_wok w B) : ∀ i : Int, 0 ≤ i → i < 105 → w.2.2.2.2.2.2 i ≤ B := by
  intro i i1 i2
  have h1 := (y_wok_S h).2 (i / 21).toNat (by omega)
  have h2 := z_S_el (f := w.2.2.2.2.2.2) (a := ((i / 21).toNat : Int) * 21) 21 (fun j j1 j2 => h.2.2.2.2.1 _ (by omega) (by omega)) (i % 21) (by omega) (by omega)
  rw [show ((i / 21).toNat : Int) * 21 + i % 21 = i by omega] at h2
  omega
theorem z_wok_ow {w : z_Wv} {B : Int} (h : z_wok w B) : 0 ≤ w.2.2.2.1 ∧ w.2.2.2.1 ≤ 5 * B := by
  obtain ⟨-, h1⟩ := y_wok_S h
  have how := h.2.2.2.2.2.2.2.2.2.2
  have e : z_S w.2.2.2.2.2.2 0 105 = z_S w.2.2.2.2.2.2 (((0 : Nat) : Int) * 21) 21 + z_S w.2.2.2.2.2.2 (((1 : Nat) : Int) * 21) 21 + z_S w.2.2.2.2.2.2 (((2 : Nat) : Int) * 21) 21 + z_S w.2.2.2.2.2.2 (((3 : Nat) : Int) * 21) 21 + z_S w.2.2.2.2.2.2 (((4 : Nat) : Int) * 21) 21 := by
    have a1 := z_S_add w.2.2.2.2.2.2 0 21 84
    have a2 := z_S_add w.2.2.2.2.2.2 21 21 63
    have a3 := z_S_add w.2.2.2.2.2.2 42 21 42
    have a4 := z_S_add w.2.2.2.2.2.2 63 21 21
    simp only [show (21 : Nat) + 84 = 105 from rfl, show (21 : Nat) + 63 = 84 from rfl, show (21 : Nat) + 42 = 63 from rfl, show (21 : Nat) + 21 = 42 from rfl, show (0 : Int) + ((21 : Nat) : Int) = 21 from rfl, show (21 : Int) + ((21 : Nat) : Int) = 42 from rfl, show (42 : Int) + ((21 : Nat) : Int) = 63 from rfl, show (63 : Int) + ((21 : Nat) : Int) = 84 from rfl] at a1 a2 a3 a4
    show _ = z_S w.2.2.2.2.2.2 0 21 + z_S w.2.2.2.2.2.2 21 21 + z_S w.2.2.2.2.2.2 42 21 + z_S w.2.2.2.2.2.2 63 21 + z_S w.2.2.2.2.2.2 84 21
    omega
  have b0 := h1 0 (by omega)
  have b1 := h1 1 (by omega)
  have b2 := h1 2 (by omega)
  have b3 := h1 3 (by omega)
  have b4 := h1 4 (by omega)
  omega
theorem y_dst : ∀ s : Nat, s < 6 → ∀ x : Nat, x < 2 ^ s → ∀ k : Nat, k < s → ∀ d : Nat, d < 2 → 0 ≤ (x : Int) - ((x : Int) / ((2 ^ k : Nat) : Int)) % 2 * ((2 ^ k : Nat) : Int) + (d : Int) * ((2 ^ k : Nat) : Int) ∧ (x : Int) - ((x : Int) / ((2 ^ k : Nat) : Int)) % 2 * ((2 ^ k : Nat) : Int) + (d : Int) * ((2 ^ k : Nat) : Int) < ((2 ^ s : Nat) : Int) := by decide +kernel
theorem y_sh_set {x k d s : Int} (hs : 0 ≤ s ∧ s ≤ 5) (hx : 0 ≤ x ∧ x < z_p2 s) (hk : 0 ≤ k ∧ k < s) (hd : 0 ≤ d ∧ d < 2) : 0 ≤ x - z_bit x k * z_p2 k + d * z_p2 k ∧ x - z_bit x k * z_p2 k + d * z_p2 k < z_p2 s := by
  obtain ⟨x, rfl⟩ := Int.eq_ofNat_of_zero_le hx.1
  obtain ⟨k, rfl⟩ := Int.eq_ofNat_of_zero_le hk.1
  obtain ⟨d, rfl⟩ := Int.eq_ofNat_of_zero_le hd.1
  obtain ⟨s, rfl⟩ := Int.eq_ofNat_of_zero_le hs.1
  unfold z_bit
  rw [z_p2_nat, z_p2_nat] at *
  exact y_dst s (by omega) x (by omega) k (by omega) d (by omega)
theorem y_td_s {t st sh ow B k acc : Int} {dl dn du : Int → Int} (h : z_wok (t, st, sh, ow, dl, dn, du) B) (hk : 0 ≤ k ∧ k < st) (ha : 0 ≤ acc ∧ acc ≤ k * B) : (0 ≤ (z_tdS t st dl k (acc, sh, ow, dn, du)).1 ∧ (z_tdS t st dl k (acc, sh, ow, dn, du)).1 ≤ (k + 1) * B) ∧ z_wok (t, st, (z_tdS t st dl k (acc, sh, ow, dn, du)).2.1, (z_tdS t st dl k (acc, sh, ow, dn, du)).2.2.1, dl, (z_tdS t st dl k (acc, sh, ow, dn, du)).2.2.2.1, (z_tdS t st dl k (acc, sh, ow, dn, du)).2.2.2.2) B := by
  have hB0 := (y_wok_S h).1
  have hduB := z_wok_du h
  have hkB : (k + 1) * B = k * B + B := by rw [Int.add_mul, Int.one_mul]
  obtain ⟨ht0, hst, hsh, hdl, hdu, hdn, hB, htot, hbit, hzero, how⟩ := id h
  dsimp only at ht0 hst hsh hdl hdu hdn hB htot hbit hzero how hduB
  by_cases q : 0 < du (k * 21 + t % 21)
  · have hm := hduB (k * 21 + t % 21) (by omega) (by omega)
    have hp := z_p2_le (k := st) (by omega)
    have hbk := hbit k hk.1 hk.2
    have hdk := hdn k hk.1 (by omega)
    have hset := y_sh_set (x := sh) (k := k) (d := (z_bit sh k + du (k * 21 + t % 21)) % 2) (s := st) (by omega) hsh hk (by omega)
    have hbs := fun (j : Int) (j1 : 0 ≤ j) (j2 : j < 5) => z_bit_set (x := sh) (k := k) (d := (z_bit sh k + du (k * 21 + t % 21)) % 2) (j := j) (by omega) (by omega) (by omega) ⟨j1, j2⟩
    generalize hmm : du (k * 21 + t % 21) = m at *
    generalize hss : sh - z_bit sh k * z_p2 k + (z_bit sh k + m) % 2 * z_p2 k = sh' at *
    have q' : 0 < (acc, sh, ow, dn, du).2.2.2.2 (k * 21 + t % 21) := by show 0 < du (k * 21 + t % 21); omega
    by_cases q2 : k + 1 < st
    · rw [z_tdS_1 q' q2]
      dsimp only
      rw [hmm, hss]
      have hd1 := hdl (k + 1) (by omega) (by omega)
      unfold z_bg
      rw [z_u_ne (show ¬ (k + 1) * 21 + (t + dl (k + 1)) % 21 = k * 21 + t % 21 by omega)]
      generalize hxx : (z_bit sh k + m) / 2 = x at *
      have hold := hdu ((k + 1) * 21 + (t + dl (k + 1)) % 21) (by omega) (by omega)
      generalize hbb : (k + 1) * 21 + (t + dl (k + 1)) % 21 = b at *
      have hx0 : 0 ≤ x := by omega
      refine ⟨by omega, ht0, hst, hset, hdl, ?_, ?_, ?_, ?_, ?_, ?_, ?_⟩
      · intro i i1 i2
        show 0 ≤ z_u (z_u du (k * 21 + t % 21) 0) b (du b + x) i
        by_cases c1 : i = b
        · rw [c1, z_u_same]; omega
        · rw [z_u_ne c1]
          by_cases c2 : i = k * 21 + t % 21
          · rw [c2, z_u_same]; omega
          · rw [z_u_ne c2]; exact hdu i i1 i2
      · intro j j1 j2
        show 0 ≤ z_u dn k (dn k + m) j
        by_cases c : j = k
        · rw [c, z_u_same]; omega
        · rw [z_u_ne c]; exact hdn j j1 j2
      · show z_u dn k (dn k + m) 0 + z_S (z_u (z_u du (k * 21 + t % 21) 0) b (du b + x)) 0 21 ≤ B
        rw [z_S_u, if_neg (by omega), z_S_u]
        by_cases c : k = 0
        · rw [if_pos (by omega), hmm, c, z_u_same]; rw [c] at hmm; omega
        · rw [if_neg (by omega), z_u_ne (by omega)]; exact hB
      · intro j j1 j2
        show z_u dn k (dn k + m) (j + 1) + z_S (z_u (z_u du (k * 21 + t % 21) 0) b (du b + x)) ((j + 1) * 21) 21 = z_u dn k (dn k + m) j / 2
        have hj := htot j j1 j2
        rw [z_S_u, z_u_ne (show ¬ b = k * 21 + t % 21 by omega), z_S_u]
        by_cases c : j = k
        · rw [if_pos (by omega), if_neg (by omega), c, z_u_same, z_u_ne (by omega)]
          rw [c] at hj; omega
        · rw [if_neg (by omega)]
          by_cases c2 : j + 1 = k
          · rw [if_pos (by omega), hmm, c2, z_u_same, z_u_ne (by omega)]
            rw [c2] at hj; omega
          · rw [if_neg (by omega), z_u_ne c2, z_u_ne c]; exact hj
      · intro j j1 j2
        show z_bit sh' j = z_u dn k (dn k + m) j % 2
        have j2' : j < st := j2
        rw [hbs j j1 (by omega)]
        by_cases c : j = k
        · rw [if_pos c, c, z_u_same]; omega
        · rw [if_neg c, z_u_ne c]; exact hbit j j1 j2
      · intro j i j1 j2 i1 i2
        show z_u (z_u du (k * 21 + t % 21) 0) b (du b + x) (j * 21 + i) = 0
        have j1' : st ≤ j := j1
        rw [z_u_ne (by omega), z_u_ne (by omega)]
        exact hzero j i j1 j2 i1 i2
      · show ow - m + x = z_S (z_u (z_u du (k * 21 + t % 21) 0) b (du b + x)) 0 105
        rw [z_S_u, if_pos (by omega), z_u_ne (show ¬ b = k * 21 + t % 21 by omega), z_S_u, if_pos (by omega), hmm]
        omega
    · rw [z_tdS_2 q' q2]
      dsimp only
      rw [hmm, hss]
      refine ⟨by omega, ht0, hst, hset, hdl, ?_, ?_, ?_, ?_, ?_, ?_, ?_⟩
      · intro i i1 i2
        show 0 ≤ z_u du (k * 21 + t % 21) 0 i
        by_cases c2 : i = k * 21 + t % 21
        · rw [c2, z_u_same]; omega
        · rw [z_u_ne c2]; exact hdu i i1 i2
      · intro j j1 j2
        show 0 ≤ z_u dn k (dn k + m) j
        by_cases c : j = k
        · rw [c, z_u_same]; omega
        · rw [z_u_ne c]; exact hdn j j1 j2
      · show z_u dn k (dn k + m) 0 + z_S (z_u du (k * 21 + t % 21) 0) 0 21 ≤ B
        rw [z_S_u]
        by_cases c : k = 0
        · rw [if_pos (by omega), hmm, c, z_u_same]; rw [c] at hmm; omega
        · rw [if_neg (by omega), z_u_ne (by omega)]; exact hB
      · intro j j1 j2
        have j2' : j + 1 < st := j2
        show z_u dn k (dn k + m) (j + 1) + z_S (z_u du (k * 21 + t % 21) 0) ((j + 1) * 21) 21 = z_u dn k (dn k + m) j / 2
        have hj := htot j j1 j2
        rw [z_S_u]
        by_cases c2 : j + 1 = k
        · rw [if_pos (by omega), hmm, c2, z_u_same, z_u_ne (by omega)]
          rw [c2] at hj; omega
        · rw [if_neg (by omega), z_u_ne c2, z_u_ne (by omega)]; exact hj
      · intro j j1 j2
        show z_bit sh' j = z_u dn k (dn k + m) j % 2
        have j2' : j < st := j2
        rw [hbs j j1 (by omega)]
        by_cases c : j = k
        · rw [if_pos c, c, z_u_same]; omega
        · rw [if_neg c, z_u_ne c]; exact hbit j j1 j2
      · intro j i j1 j2 i1 i2
        show z_u du (k * 21 + t % 21) 0 (j * 21 + i) = 0
        have j1' : st ≤ j := j1
        rw [z_u_ne (by omega)]
        exact hzero j i j1 j2 i1 i2
      · show ow - m = z_S (z_u du (k * 21 + t % 21) 0) 0 105
        rw [z_S_u, if_pos (by omega), hmm]
        omega
  · rw [z_tdS_3 (r := (acc, sh, ow, dn, du)) q]
    exact ⟨by dsimp only; omega, h⟩
theorem y_td_I {w : z_Wv} {B : Int} (h : z_wok w B) : ∀ n : Nat, (n : Int) ≤ w.2.1 → (0 ≤ (z_it (z_tdS w.1 w.2.1 w.2.2.2.2.1) (0, w.2.2.1, w.2.2.2.1, w.2.2.2.2.2.1, w.2.2.2.2.2.2) n).1 ∧ (z_it (z_tdS w.1 w.2.1 w.2.2.2.2.1) (0, w.2.2.1, w.2.2.2.1, w.2.2.2.2.2.1, w.2.2.2.2.2.2) n).1 ≤ (n : Int) * B) ∧
    z_wok (w.1, w.2.1, (z_it (z_tdS w.1 w.2.1 w.2.2.2.2.1) (0, w.2.2.1, w.2.2.2.1, w.2.2.2.2.2.1, w.2.2.2.2.2.2) n).2.1, (z_it (z_tdS w.1 w.2.1 w.2.2.2.2.1) (0, w.2.2.1, w.2.2.2.1, w.2.2.2.2.2.1, w.2.2.2.2.2.2) n).2.2.1, w.2.2.2.2.1, (z_it (z_tdS w.1 w.2.1 w.2.2.2.2.1) (0, w.2.2.1, w.2.2.2.1, w.2.2.2.2.2.1, w.2.2.2.2.2.2) n).2.2.2.1, (z_it (z_tdS w.1 w.2.1 w.2.2.2.2.1) (0, w.2.2.1, w.2.2.2.1, w.2.2.2.2.2.1, w.2.2.2.2.2.2) n).2.2.2.2) B
  | 0, _ => ⟨⟨Int.le_refl _, by show (0 : Int) ≤ ((0 : Nat) : Int) * B; simp⟩, h⟩
  | n + 1, hn => by
    obtain ⟨h1, h2⟩ := y_td_I h n (by omega)
    have h3 := y_td_s h2 (k := (n : Int)) ⟨by omega, by show (n : Int) < w.2.1; omega⟩ h1
    rw [show ((n + 1 : Nat) : Int) = (n : Int) + 1 by omega]
    exact h3
theorem z_td_I {w : z_Wv} {B : Int} (h : z_wok w B) : ∀ k : Int, 0 ≤ k → k ≤ w.2.1 → (0 ≤ (z_it (z_tdS w.1 w.2.1 w.2.2.2.2.1) (0, w.2.2.1, w.2.2.2.1, w.2.2.2.2.2.1, w.2.2.2.2.2.2) k.toNat).1 ∧ (z_it (z_tdS w.1 w.2.1 w.2.2.2.2.1) (0, w.2.2.1, w.2.2.2.1, w.2.2.2.2.2.1, w.2.2.2.2.2.2) k.toNat).1 ≤ k * B) ∧
    z_wok (w.1, w.2.1, (z_it (z_tdS w.1 w.2.1 w.2.2.2.2.1) (0, w.2.2.1, w.2.2.2.1, w.2.2.2.2.2.1, w.2.2.2.2.2.2) k.toNat).2.1, (z_it (z_tdS w.1 w.2.1 w.2.2.2.2.1) (0, w.2.2.1, w.2.2.2.1, w.2.2.2.2.2.1, w.2.2.2.2.2.2) k.toNat).2.2.1, w.2.2.2.2.1, (z_it (z_tdS w.1 w.2.1 w.2.2.2.2.1) (0, w.2.2.1, w.2.2.2.1, w.2.2.2.2.2.1, w.2.2.2.2.2.2) k.toNat).2.2.2.1, (z_it (z_tdS w.1 w.2.1 w.2.2.2.2.1) (0, w.2.2.1, w.2.2.2.1, w.2.2.2.2.2.1, w.2.2.2.2.2.2) k.toNat).2.2.2.2) B := by
  intro k k1 k2
  obtain ⟨n, rfl⟩ := Int.eq_ofNat_of_zero_le k1
  rw [show ((n : Nat) : Int).toNat = n by omega]
  exact y_td_I h n k2
theorem y_rok_t {rd : z_Rd} {t t' : Int} (h : z_rok rd t) (ht : t ≤ t') : z_rok rd t' := ⟨h.1, fun i i1 i2 => by have := h.2.1 i i1 i2; omega, h.2.2⟩
theorem y_sok_t {sg : z_Sg} {t t' : Int} (h : z_sok sg t) (ht : t ≤ t') : z_sok sg t' := ⟨h.1, h.2.1, fun v v1 v2 => by have := h.2.2.1 v v1 v2; omega, h.2.2.2⟩
theorem y_rok_add {rd : z_Rd} {t nb tm cn lt : Int} (h : z_rok rd t) (hr : rd.1 < 99) (hnb : 0 ≤ nb ∧ nb < 32) (hcn : 0 ≤ cn ∧ cn < 32) (htm : 0 ≤ tm ∧ tm ≤ t) (hlt : lt = 0 ∨ lt = 1) : z_rok (z_rad rd nb tm cn lt) t := by
  obtain ⟨h1, h2, h3⟩ := h
  refine ⟨⟨by show 0 ≤ rd.1 + 1; omega, by show rd.1 + 1 ≤ 99; omega⟩, fun i i1 i2 => ?_, fun i i1 i2 => ?_⟩
  · have i2' : i < rd.1 + 1 := i2
    show (0 ≤ z_u rd.2.1 rd.1 nb i ∧ z_u rd.2.1 rd.1 nb i < 32) ∧ (0 ≤ z_u rd.2.2.2.1 rd.1 cn i ∧ z_u rd.2.2.2.1 rd.1 cn i < 32) ∧ (0 ≤ z_u rd.2.2.1 rd.1 tm i ∧ z_u rd.2.2.1 rd.1 tm i ≤ t)
    by_cases q : i = rd.1
    · rw [q, z_u_same, z_u_same, z_u_same]; exact ⟨hnb, hcn, htm⟩
    · rw [z_u_ne q, z_u_ne q, z_u_ne q]; exact h2 i i1 (by omega)
  · show z_u rd.2.2.2.2 rd.1 lt i = 0 ∨ z_u rd.2.2.2.2 rd.1 lt i = 1
    by_cases q : i = rd.1
    · rw [q, z_u_same]; exact hlt
    · rw [z_u_ne q]; exact h3 i i1 i2
theorem y_sok_add {sg : z_Sg} {t nb tm fb : Int} (h : z_sok sg t) (hnb : 0 ≤ nb ∧ nb < 32) : z_sok (z_sad sg nb tm fb) (t + 1) := by
  have hnew := z_sok_new h nb hnb.1 hnb.2
  obtain ⟨h1, h2, h3, h4, h5, h6⟩ := h
  have hfo : ∀ v : Int, 0 ≤ v → v < 32 → (0 ≤ z_u sg.2.2.1 nb (sg.2.2.1 nb + 1) v ∧ z_u sg.2.2.1 nb (sg.2.2.1 nb + 1) v ≤ t + 1) ∧ sg.2.2.1 v ≤ z_u sg.2.2.1 nb (sg.2.2.1 nb + 1) v := by
    intro v v1 v2
    have := h3 v v1 v2
    by_cases q : v = nb
    · rw [q, z_u_same]; rw [q] at this; omega
    · rw [z_u_ne q]; omega
  have h3n := h3 nb hnb.1 hnb.2
  have hsum : z_S (fun v => if 0 < z_u sg.2.2.1 nb (sg.2.2.1 nb + 1) v then (1 : Int) else 0) 0 32 = if sg.2.2.1 nb = 0 then sg.1 + 1 else sg.1 := by
    have e : z_S (fun v => if 0 < z_u sg.2.2.1 nb (sg.2.2.1 nb + 1) v then (1 : Int) else 0) 0 32 = z_S (z_u (fun v => if 0 < sg.2.2.1 v then (1 : Int) else 0) nb 1) 0 32 := z_S_congr 32 (fun i i1 i2 => by
      show (if 0 < z_u sg.2.2.1 nb (sg.2.2.1 nb + 1) (0 + i) then (1 : Int) else 0) = z_u (fun v => if 0 < sg.2.2.1 v then (1 : Int) else 0) nb 1 (0 + i)
      by_cases q : 0 + i = nb
      · rw [q, z_u_same, z_u_same, if_pos (by omega)]
      · rw [z_u_ne q, z_u_ne q])
    rw [e, z_S_u, if_pos (by omega), ← h4]
    show sg.1 + (1 - (if 0 < sg.2.2.1 nb then (1 : Int) else 0)) = _
    by_cases q : sg.2.2.1 nb = 0
    · rw [if_pos q, if_neg (by omega)]; omega
    · rw [if_neg q, if_pos (by omega)]; omega
  by_cases q : sg.2.2.1 nb = 0
  · have hlt := hnew q
    have hno : ∀ i : Int, 0 ≤ i → i < sg.1 → ¬ sg.2.1 i = nb := fun i i1 i2 z => by
      have := (h2 i i1 i2).2
      rw [z] at this; omega
    unfold z_sad
    refine ⟨?_, ?_, ?_, ?_, ?_, ?_⟩
    · dsimp only; rw [if_pos q]; omega
    · intro i i1 i2
      dsimp only at i2 ⊢
      rw [if_pos q] at i2 ⊢
      by_cases c : i = sg.1
      · rw [c, z_u_same, z_u_same]; exact ⟨hnb, by omega⟩
      · rw [z_u_ne c]
        have h9 := h2 i i1 (by omega)
        have h8 := hfo _ h9.1.1 h9.1.2
        exact ⟨h9.1, by omega⟩
    · intro v v1 v2
      dsimp only
      have h8 := hfo v v1 v2
      have h9 := h3 v v1 v2
      refine ⟨h8.1, ?_⟩
      by_cases c : fb = 0
      · rw [if_pos c]; omega
      · rw [if_neg c]
        by_cases c2 : v = nb
        · rw [c2, z_u_same, z_u_same]; omega
        · rw [z_u_ne c2, z_u_ne c2]; exact h9.2
    · dsimp only; exact hsum.symm
    · intro i j i1 i2 i3
      dsimp only at i3 ⊢
      rw [if_pos q] at i3 ⊢
      rw [z_u_ne (show ¬ i = sg.1 by omega)]
      by_cases c : j = sg.1
      · rw [c, z_u_same]; exact hno i i1 (by omega)
      · rw [z_u_ne c]; exact h5 i j i1 i2 (by omega)
    · intro v v1 v2 v3
      dsimp only at v3 ⊢
      rw [if_pos q, if_pos q]
      by_cases c : v = nb
      · exact ⟨sg.1, by omega, by omega, by rw [z_u_same, c]⟩
      · rw [z_u_ne c] at v3
        obtain ⟨i, i1, i2, i3⟩ := h6 v v1 v2 v3
        exact ⟨i, i1, by omega, by rw [z_u_ne (by omega)]; exact i3⟩
  · unfold z_sad
    refine ⟨?_, ?_, ?_, ?_, ?_, ?_⟩
    · dsimp only; rw [if_neg q]; omega
    · intro i i1 i2
      dsimp only at i2 ⊢
      rw [if_neg q] at i2 ⊢
      have h9 := h2 i i1 i2
      have h8 := hfo _ h9.1.1 h9.1.2
      exact ⟨h9.1, by omega⟩
    · intro v v1 v2
      dsimp only
      have h8 := hfo v v1 v2
      have h9 := h3 v v1 v2
      refine ⟨h8.1, ?_⟩
      by_cases c : fb = 0
      · rw [if_pos c]; omega
      · rw [if_neg c]
        by_cases c2 : v = nb
        · rw [c2, z_u_same, z_u_same]; omega
        · rw [z_u_ne c2, z_u_ne c2]; exact h9.2
    · dsimp only; exact hsum.symm
    · intro i j i1 i2 i3
      dsimp only at i3 ⊢
      rw [if_neg q] at i3 ⊢
      exact h5 i j i1 i2 i3
    · intro v v1 v2 v3
      dsimp only at v3 ⊢
      rw [if_neg q, if_neg q]
      by_cases c : v = nb
      · exact h6 v v1 v2 (by rw [c]; omega)
      · rw [z_u_ne c] at v3
        exact h6 v v1 v2 v3
theorem z_ok_nano {ct : z_Ct} (h : z_ok ct) : z_ok (z_nano ct) := by
  obtain ⟨hw, hrd, hsg, hho, hck, hlc, hld, hlw, hrl⟩ := h
  have hst := hw.2.1
  have hI := y_td_I hw ct.1.2.1.toNat (by omega)
  have hT := hI.2
  have hacc := hI.1
  have ht0 := hw.1
  have hp := z_p2_le (k := ct.1.2.1) (by omega)
  have hsh : 0 ≤ (z_tdR ct).2.1 ∧ (z_tdR ct).2.1 < z_p2 ct.1.2.1 := hT.2.2.1
  unfold z_nano z_nanoR
  refine ⟨⟨?_, hT.2⟩, ?_, ?_, hho, hck, ?_, ?_, ?_, ?_⟩
  · show 0 ≤ ct.1.1 + 1; omega
  · dsimp only
    split
    · rename_i c
      have c1 := c.1
      exact y_rok_add (y_rok_t hrd (by omega)) (by omega) (by omega) (by omega) (by omega) (Or.inr rfl)
    · exact y_rok_t hrd (by omega)
  · show z_sok (z_nsg ct (z_tdR ct)) (ct.1.1 + 1)
    unfold z_nsg
    split
    · exact y_sok_add hsg (by omega)
    · exact y_sok_t hsg (by omega)
  · dsimp only; omega
  · show -1 ≤ z_nld ct (z_tdR ct) ∧ z_nld ct (z_tdR ct) ≤ ct.1.1 + 1 - 1
    unfold z_nld
    split <;> omega
  · dsimp only
    split
    · exact Or.inl rfl
    · exact hlw
  · dsimp only
    split
    · rename_i c
      have c1 := c.1
      show ct.2.1.1 + 1 + 0 ≤ 99
      omega
    · exact hrl
theorem z_ok_take {ct : z_Ct} (h : z_ok ct) (h1 : ¬ ct.2.2.2.2.2.1 = ct.1.1) : z_ok (z_take ct) := by
  obtain ⟨hw, hrd, hsg, hho, hck, hlc, hld, hlw, hrl⟩ := h
  obtain ⟨ht0, hst, hsh, hdl, hdu, hdn, hB, htot, hbit, hzero, how⟩ := hw
  have hp := z_p2_le (k := ct.1.2.1) (by omega)
  have hd0 := hdl 0 (by omega) (by omega)
  unfold z_take z_bg
  generalize hb : 0 * 21 + (ct.1.1 + ct.1.2.2.2.2.1 0) % 21 = b
  have hbr : 0 ≤ b ∧ b < 21 := by omega
  have hdb := hdu b (by omega) (by omega)
  refine ⟨⟨ht0, hst, hsh, hdl, ?_, hdn, ?_, ?_, hbit, ?_, ?_⟩, hrd, hsg, hho, ?_, ?_, hld, hlw, hrl⟩
  · intro i i1 i2
    show 0 ≤ z_u ct.1.2.2.2.2.2.2 b (ct.1.2.2.2.2.2.2 b + 1) i
    by_cases c : i = b
    · rw [c, z_u_same]; omega
    · rw [z_u_ne c]; exact hdu i i1 i2
  · show ct.1.2.2.2.2.2.1 0 + z_S (z_u ct.1.2.2.2.2.2.2 b (ct.1.2.2.2.2.2.2 b + 1)) 0 21 ≤ ct.1.1 + 1
    rw [z_S_u, if_pos (by omega)]; omega
  · intro j j1 j2
    show ct.1.2.2.2.2.2.1 (j + 1) + z_S (z_u ct.1.2.2.2.2.2.2 b (ct.1.2.2.2.2.2.2 b + 1)) ((j + 1) * 21) 21 = ct.1.2.2.2.2.2.1 j / 2
    rw [z_S_u, if_neg (by omega)]; exact htot j j1 j2
  · intro j i j1 j2 i1 i2
    have j1' : ct.1.2.1 ≤ j := j1
    show z_u ct.1.2.2.2.2.2.2 b (ct.1.2.2.2.2.2.2 b + 1) (j * 21 + i) = 0
    rw [z_u_ne (by omega)]; exact hzero j i j1 j2 i1 i2
  · show ct.1.2.2.2.1 + 1 = z_S (z_u ct.1.2.2.2.2.2.2 b (ct.1.2.2.2.2.2.2 b + 1)) 0 105
    rw [z_S_u, if_pos (by omega)]; omega
  · show 0 ≤ (ct.2.2.2.2.1 + 1) % z_p2 ct.1.2.1 ∧ (ct.2.2.2.2.1 + 1) % z_p2 ct.1.2.1 < z_p2 ct.1.2.1
    exact ⟨Int.emod_nonneg _ (by omega), Int.emod_lt_of_pos _ (by omega)⟩
  · show -1 ≤ ct.1.1 ∧ ct.1.1 ≤ ct.1.1; omega
theorem z_ok_anew {ct : z_Ct} (h : z_ok ct) {k : Int} (hk : 1 ≤ k ∧ k ≤ 5) : z_ok (z_anew ct k) := by
  obtain ⟨hw, hrd, hsg, hho, hck, hlc, hld, hlw, hrl⟩ := h
  have ht0 := hw.1
  have hp := z_p2_le (k := k) (by omega)
  have hz : ∀ (a : Int) (n : Nat), z_S (fun _ => (0 : Int)) a n = 0 := fun a n => z_S_zero n (fun _ _ _ => rfl)
  unfold z_anew
  refine ⟨⟨ht0, hk, ⟨by dsimp only; omega, by dsimp only; omega⟩, hw.2.2.2.1, fun i i1 i2 => Int.le_refl _, fun i i1 i2 => Int.le_refl _, ?_, ?_, ?_, fun _ _ _ _ _ _ => rfl, ?_⟩, ⟨by dsimp only; omega, fun i i1 i2 => by dsimp only at i2; omega, hrd.2.2⟩, ⟨by dsimp only; omega, fun i i1 i2 => by dsimp only at i2; omega, fun v v1 v2 => by dsimp only; omega, ?_, fun i j i1 i2 i3 => by dsimp only at i3; omega, fun v v1 v2 v3 => by dsimp only at v3; omega⟩, hho, ?_, ?_, ?_, Or.inl rfl, ?_⟩
  · show (0 : Int) + z_S (fun _ => (0 : Int)) 0 21 ≤ -1 + 1
    rw [hz]; omega
  · intro j j1 j2
    show (0 : Int) + z_S (fun _ => (0 : Int)) ((j + 1) * 21) 21 = 0 / 2
    rw [hz]; omega
  · intro j j1 j2
    show z_bit 0 j = 0 % 2
    rw [z_bit0]; rfl
  · show (0 : Int) = z_S (fun _ => (0 : Int)) 0 105
    rw [hz]
  · show (0 : Int) = z_S (fun v => if (0 : Int) < 0 then (1 : Int) else 0) 0 32
    exact (z_S_zero 32 (fun i i1 i2 => rfl)).symm
  · dsimp only; omega
  · dsimp only; omega
  · dsimp only; omega
  · dsimp only; omega
theorem z_rg_ok {ct : z_Ct} (h : z_ok ct) (ht : ct.1.1 ≤ 9999) : z_ok (z_rg ct).1 ∧ (z_rg ct).1.1.1 ≤ 9999 ∧ -5 ≤ (z_rg ct).2 ∧ (z_rg ct).2 < 100 := by
  obtain ⟨hw, hrd, hsg, hho, hck, hlc, hld, hlw, hrl⟩ := id h
  have hst := hw.2.1
  have hsh := hw.2.2.1
  have ht0 := hw.1
  have hp := z_p2_le (k := ct.1.2.1) (by omega)
  unfold z_rg
  split
  · exact ⟨h, ht, by dsimp only; omega, by dsimp only; omega⟩
  · refine ⟨⟨hw, y_rok_add hrd (by omega) (by omega) (by omega) (by show 0 ≤ ct.1.1 ∧ ct.1.1 ≤ ct.1.1; omega) (Or.inl rfl), hsg, hho, hck, hlc, hld, hlw, ?_⟩, ht, by dsimp only; omega, by dsimp only; omega⟩
    show ct.2.1.1 + 1 + ct.2.2.2.2.2.2.2 ≤ 99
    omega
theorem z_sl_ok {ct : z_Ct} (h : z_ok ct) (ht : ct.1.1 ≤ 9999) : z_ok (z_sl ct).1 ∧ (z_sl ct).1.1.1 ≤ 9999 ∧ -5 ≤ (z_sl ct).2 ∧ (z_sl ct).2 < 100 := by
  obtain ⟨hw, hrd, hsg, hho, hck, hlc, hld, hlw, hrl⟩ := id h
  unfold z_sl
  split
  · exact ⟨h, ht, by dsimp only; omega, by dsimp only; omega⟩
  · split
    · exact ⟨h, ht, by dsimp only; omega, by dsimp only; omega⟩
    · refine ⟨⟨hw, hrd, hsg, hho, hck, hlc, hld, Or.inr rfl, ?_⟩, ht, by dsimp only; omega, by dsimp only; omega⟩
      show ct.2.1.1 + 1 ≤ 99
      omega
theorem z_cd_ok {ct : z_Ct} (h : z_ok ct) (ht : ct.1.1 ≤ 9999) (k v : Int) : z_ok (z_cd ct k v).1 ∧ (z_cd ct k v).1.1.1 ≤ 9999 ∧ -5 ≤ (z_cd ct k v).2 ∧ (z_cd ct k v).2 < 100 := by
  obtain ⟨hw, hrd, hsg, hho, hck, hlc, hld, hlw, hrl⟩ := id h
  obtain ⟨ht0, hst, hsh, hdl, hdu, hdn, hB, htot, hbit, hzero, how⟩ := hw
  unfold z_cd
  split
  · rename_i c
    have hk := hdl k c.1 (by omega)
    split
    · rename_i c2
      refine ⟨⟨⟨ht0, hst, hsh, ?_, hdu, hdn, hB, htot, hbit, hzero, how⟩, hrd, hsg, hho, hck, hlc, hld, hlw, hrl⟩, ht, by dsimp only; omega, by dsimp only; omega⟩
      intro i i1 i2
      show 1 ≤ z_u ct.1.2.2.2.2.1 k v i ∧ z_u ct.1.2.2.2.2.1 k v i ≤ 20
      by_cases q : i = k
      · rw [q, z_u_same]; exact c2
      · rw [z_u_ne q]; exact hdl i i1 i2
    · exact ⟨h, ht, by dsimp only; omega, by dsimp only; omega⟩
  · exact ⟨h, ht, by dsimp only; omega, by dsimp only; omega⟩
theorem z_chg_ok {ct : z_Ct} (h : z_ok ct) (ht : ct.1.1 ≤ 9999) (w k : Int) : z_ok (z_chg ct w k).1 ∧ (z_chg ct w k).1.1.1 ≤ 9999 ∧ -5 ≤ (z_chg ct w k).2 ∧ (z_chg ct w k).2 < 100 := by
  obtain ⟨hw, hrd, hsg, hho, hck, hlc, hld, hlw, hrl⟩ := id h
  have hst := hw.2.1
  unfold z_chg
  split
  · unfold z_cs
    split
    · rename_i c
      exact ⟨z_ok_anew h c, ht, by dsimp only; omega, by dsimp only; omega⟩
    · exact ⟨h, ht, by dsimp only; omega, by dsimp only; omega⟩
  · split
    · unfold z_chh
      split
      · rename_i c
        exact ⟨⟨hw, hrd, hsg, c, hck, hlc, hld, hlw, hrl⟩, ht, by dsimp only; omega, by dsimp only; omega⟩
      · exact ⟨h, ht, by dsimp only; omega, by dsimp only; omega⟩
    · exact ⟨h, ht, by dsimp only; omega, by dsimp only; omega⟩
theorem z_narV {x : Int} (h : x = 0 ∨ x = 1) : narrow .boolean (.int (z_I x)) = .int (z_I x) := by rcases h with rfl | rfl <;> decide
