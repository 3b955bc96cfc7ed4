/-! ===== the words of a counter: what is saved and undone ===== -/
abbrev z_Wv : Type := Int × Int × Int × Int × (Int → Int) × (Int → Int) × (Int → Int)
abbrev z_Rd : Type := Int × (Int → Int) × (Int → Int) × (Int → Int) × (Int → Int)
abbrev z_Sg : Type := Int × (Int → Int) × (Int → Int) × (Int → Int) × (Int → Int)
abbrev z_Ct : Type := z_Wv × z_Rd × z_Sg × Int × Int × Int × Int × Int
/-- the turnings that are due at a time are done -/
def z_tdR (ct : z_Ct) : z_R := z_it (z_tdS ct.1.1 ct.1.2.1 ct.1.2.2.2.2.1) (0, ct.1.2.2.1, ct.1.2.2.2.1, ct.1.2.2.2.2.2.1, ct.1.2.2.2.2.2.2) ct.1.2.1.toNat
def z_rad (rd : z_Rd) (nb tm cn lt : Int) : z_Rd := (rd.1 + 1, z_u rd.2.1 rd.1 nb, z_u rd.2.2.1 rd.1 tm, z_u rd.2.2.2.1 rd.1 cn, z_u rd.2.2.2.2 rd.1 lt)
def z_sad (sg : z_Sg) (nb tm fb : Int) : z_Sg := (if sg.2.2.1 nb = 0 then sg.1 + 1 else sg.1, if sg.2.2.1 nb = 0 then z_u sg.2.1 sg.1 nb else sg.2.1, z_u sg.2.2.1 nb (sg.2.2.1 nb + 1), if fb = 0 then sg.2.2.2.1 else z_u sg.2.2.2.1 nb (sg.2.2.2.1 nb + 1), if sg.2.2.1 nb = 0 then z_u sg.2.2.2.2 nb tm else sg.2.2.2.2)
/-- a nanosecond, by what was done in it: the sightings, the last time, whether a latch closes -/
def z_nsg (ct : z_Ct) (r : z_R) : z_Sg := if 0 < r.1 then z_sad ct.2.2.1 r.2.1 ct.1.1 (if r.2.1 = ct.2.2.2.2.1 then 0 else 1) else ct.2.2.1
def z_nld (ct : z_Ct) (r : z_R) : Int := if 0 < r.1 then ct.1.1 else ct.2.2.2.2.2.2.1
abbrev z_ncl (ct : z_Ct) (r : z_R) : Prop := ¬ ct.2.2.2.2.2.2.2 = 0 ∧ (r.2.2.1 = 0 ∧ (z_nld ct r = -1 ∨ ct.2.2.2.1 ≤ ct.1.1 - z_nld ct r))
def z_nanoR (ct : z_Ct) (r : z_R) : z_Ct := ((ct.1.1 + 1, ct.1.2.1, r.2.1, r.2.2.1, ct.1.2.2.2.2.1, r.2.2.2.1, r.2.2.2.2), (if z_ncl ct r then z_rad ct.2.1 r.2.1 ct.1.1 ct.2.2.2.2.1 1 else ct.2.1), z_nsg ct r, ct.2.2.2.1, ct.2.2.2.2.1, ct.2.2.2.2.2.1, z_nld ct r, (if z_ncl ct r then 0 else ct.2.2.2.2.2.2.2))
def z_nano (ct : z_Ct) : z_Ct := z_nanoR ct (z_tdR ct)
theorem z_nanoR_c {ct : z_Ct} {r : z_R} (h : z_ncl ct r) : z_nanoR ct r = ((ct.1.1 + 1, ct.1.2.1, r.2.1, r.2.2.1, ct.1.2.2.2.2.1, r.2.2.2.1, r.2.2.2.2), z_rad ct.2.1 r.2.1 ct.1.1 ct.2.2.2.2.1 1, z_nsg ct r, ct.2.2.2.1, ct.2.2.2.2.1, ct.2.2.2.2.2.1, z_nld ct r, 0) := by
  unfold z_nanoR
  rw [if_pos h, if_pos h]
theorem z_nanoR_n {ct : z_Ct} {r : z_R} (h : ¬ z_ncl ct r) : z_nanoR ct r = ((ct.1.1 + 1, ct.1.2.1, r.2.1, r.2.2.1, ct.1.2.2.2.2.1, r.2.2.2.1, r.2.2.2.2), ct.2.1, z_nsg ct r, ct.2.2.2.1, ct.2.2.2.2.1, ct.2.2.2.2.2.1, z_nld ct r, ct.2.2.2.2.2.2.2) := by
  unfold z_nanoR
  rw [if_neg h, if_neg h]
theorem z_nsg_y {ct : z_Ct} {r : z_R} (h : 0 < r.1) : z_nsg ct r = z_sad ct.2.2.1 r.2.1 ct.1.1 (if r.2.1 = ct.2.2.2.2.1 then 0 else 1) := if_pos h
theorem z_nsg_n {ct : z_Ct} {r : z_R} (h : ¬ 0 < r.1) : z_nsg ct r = ct.2.2.1 := if_neg h
theorem z_nld_y {ct : z_Ct} {r : z_R} (h : 0 < r.1) : z_nld ct r = ct.1.1 := if_pos h
theorem z_nld_n {ct : z_Ct} {r : z_R} (h : ¬ 0 < r.1) : z_nld ct r = ct.2.2.2.2.2.2.1 := if_neg h
/-- a clock -/
def z_take (ct : z_Ct) : z_Ct := ((ct.1.1, ct.1.2.1, ct.1.2.2.1, ct.1.2.2.2.1 + 1, ct.1.2.2.2.2.1, ct.1.2.2.2.2.2.1, z_bg ct.1.1 ct.1.2.2.2.2.1 0 1 ct.1.2.2.2.2.2.2), ct.2.1, ct.2.2.1, ct.2.2.2.1, (ct.2.2.2.2.1 + 1) % z_p2 ct.1.2.1, ct.1.1, ct.2.2.2.2.2.2.1, ct.2.2.2.2.2.2.2)
def z_tc (ct : z_Ct) : z_Ct := if ct.2.2.2.2.2.1 = ct.1.1 then ct else z_take ct
def z_tcA (ct : z_Ct) : Int := if ct.2.2.2.2.2.1 = ct.1.1 then -5 else (ct.2.2.2.2.1 + 1) % z_p2 ct.1.2.1
/-- nanoseconds: the counter, and how many turnings -/
def z_ps (ct : z_Ct) (n : Nat) : z_Ct × Int := z_it (fun _ q => (z_nano q.1, q.2 + (z_tdR q.1).1)) (ct, 0) n
def z_lp (ct : z_Ct) (k : Int) : z_Ct × Int := if 1 ≤ k ∧ k ≤ 99 then (if ct.1.1 + k ≤ 9999 then z_ps ct k.toNat else (ct, -5)) else (ct, -2)
/-- a clock and a nanosecond -/
def z_cap (ct : z_Ct) : z_Ct × Int := if 9999 ≤ ct.1.1 ∨ ct.2.2.2.2.2.1 = ct.1.1 then (ct, -5) else (z_nano (z_take ct), (z_tdR (z_take ct)).1)
def z_rg (ct : z_Ct) : z_Ct × Int := if 99 ≤ ct.2.1.1 + ct.2.2.2.2.2.2.2 then (ct, -4) else ((ct.1, z_rad ct.2.1 ct.1.2.2.1 ct.1.1 ct.2.2.2.2.1 0, ct.2.2.1, ct.2.2.2.1, ct.2.2.2.2.1, ct.2.2.2.2.2.1, ct.2.2.2.2.2.2.1, ct.2.2.2.2.2.2.2), ct.1.2.2.1)
def z_sl (ct : z_Ct) : z_Ct × Int := if ¬ ct.2.2.2.2.2.2.2 = 0 then (ct, -5) else if 99 ≤ ct.2.1.1 then (ct, -4) else ((ct.1, ct.2.1, ct.2.2.1, ct.2.2.2.1, ct.2.2.2.2.1, ct.2.2.2.2.2.1, ct.2.2.2.2.2.2.1, 1), 1)
def z_anew (ct : z_Ct) (k : Int) : z_Ct := ((ct.1.1, k, 0, 0, ct.1.2.2.2.2.1, (fun _ => 0), (fun _ => 0)), (0, ct.2.1.2.1, ct.2.1.2.2.1, ct.2.1.2.2.2.1, ct.2.1.2.2.2.2), (0, ct.2.2.1.2.1, (fun _ => 0), (fun _ => 0), ct.2.2.1.2.2.2.2), ct.2.2.2.1, 0, -1, -1, 0)
def z_cs (ct : z_Ct) (k : Int) : z_Ct × Int := if 1 ≤ k ∧ k ≤ 5 then (z_anew ct k, ct.1.2.1) else (ct, -2)
def z_chh (ct : z_Ct) (k : Int) : z_Ct × Int := if 0 ≤ k ∧ k ≤ 20 then ((ct.1, ct.2.1, ct.2.2.1, k, ct.2.2.2.2.1, ct.2.2.2.2.2.1, ct.2.2.2.2.2.2.1, ct.2.2.2.2.2.2.2), ct.2.2.2.1) else (ct, -2)
def z_chg (ct : z_Ct) (w k : Int) : z_Ct × Int := if w = 0 then z_cs ct k else if w = 1 then z_chh ct k else (ct, -2)
def z_cd (ct : z_Ct) (k v : Int) : z_Ct × Int := if 0 ≤ k ∧ k < ct.1.2.1 then (if 1 ≤ v ∧ v ≤ 20 then (((ct.1.1, ct.1.2.1, ct.1.2.2.1, ct.1.2.2.2.1, z_u ct.1.2.2.2.2.1 k v, ct.1.2.2.2.2.2.1, ct.1.2.2.2.2.2.2), ct.2.1, ct.2.2.1, ct.2.2.2.1, ct.2.2.2.2.1, ct.2.2.2.2.2.1, ct.2.2.2.2.2.2.1, ct.2.2.2.2.2.2.2), ct.1.2.2.2.2.1 k) else (ct, -2)) else (ct, -1)
/-! ===== what always holds of a counter ===== -/
def z_S (f : Int → Int) (a : Int) (n : Nat) : Int := z_it (fun j x => x + f (a + j)) 0 n
def z_wok (w : z_Wv) (B : Int) : Prop :=
  0 ≤ w.1 ∧ (1 ≤ w.2.1 ∧ w.2.1 ≤ 5) ∧ (0 ≤ w.2.2.1 ∧ w.2.2.1 < z_p2 w.2.1) ∧ (∀ i : Int, 0 ≤ i → i < 5 → 1 ≤ w.2.2.2.2.1 i ∧ w.2.2.2.2.1 i ≤ 20) ∧ (∀ i : Int, 0 ≤ i → i < 105 → 0 ≤ w.2.2.2.2.2.2 i) ∧ (∀ k : Int, 0 ≤ k → k < 5 → 0 ≤ w.2.2.2.2.2.1 k) ∧
  w.2.2.2.2.2.1 0 + z_S w.2.2.2.2.2.2 0 21 ≤ B ∧ (∀ k : Int, 0 ≤ k → k + 1 < w.2.1 → w.2.2.2.2.2.1 (k + 1) + z_S w.2.2.2.2.2.2 ((k + 1) * 21) 21 = w.2.2.2.2.2.1 k / 2) ∧ (∀ k : Int, 0 ≤ k → k < w.2.1 → z_bit w.2.2.1 k = w.2.2.2.2.2.1 k % 2) ∧
  (∀ k i : Int, w.2.1 ≤ k → k < 5 → 0 ≤ i → i < 21 → w.2.2.2.2.2.2 (k * 21 + i) = 0) ∧ w.2.2.2.1 = z_S w.2.2.2.2.2.2 0 105
def z_rok (rd : z_Rd) (t : Int) : Prop :=
  (0 ≤ rd.1 ∧ rd.1 ≤ 99) ∧ (∀ i : Int, 0 ≤ i → i < rd.1 → (0 ≤ rd.2.1 i ∧ rd.2.1 i < 32) ∧ (0 ≤ rd.2.2.2.1 i ∧ rd.2.2.2.1 i < 32) ∧ (0 ≤ rd.2.2.1 i ∧ rd.2.2.1 i ≤ t)) ∧ (∀ i : Int, 0 ≤ i → i < 99 → rd.2.2.2.2 i = 0 ∨ rd.2.2.2.2 i = 1)
def z_sok (sg : z_Sg) (t : Int) : Prop :=
  (0 ≤ sg.1 ∧ sg.1 ≤ 32) ∧ (∀ i : Int, 0 ≤ i → i < sg.1 → (0 ≤ sg.2.1 i ∧ sg.2.1 i < 32) ∧ 0 < sg.2.2.1 (sg.2.1 i)) ∧ (∀ v : Int, 0 ≤ v → v < 32 → (0 ≤ sg.2.2.1 v ∧ sg.2.2.1 v ≤ t) ∧ (0 ≤ sg.2.2.2.1 v ∧ sg.2.2.2.1 v ≤ sg.2.2.1 v)) ∧
  sg.1 = z_S (fun v => if 0 < sg.2.2.1 v then 1 else 0) 0 32 ∧ (∀ i j : Int, 0 ≤ i → i < j → j < sg.1 → ¬ sg.2.1 i = sg.2.1 j) ∧ (∀ v : Int, 0 ≤ v → v < 32 → 0 < sg.2.2.1 v → ∃ i : Int, 0 ≤ i ∧ i < sg.1 ∧ sg.2.1 i = v)
def z_ok (ct : z_Ct) : Prop :=
  z_wok ct.1 (ct.2.2.2.2.2.1 + 1) ∧ z_rok ct.2.1 ct.1.1 ∧ z_sok ct.2.2.1 ct.1.1 ∧ (0 ≤ ct.2.2.2.1 ∧ ct.2.2.2.1 ≤ 20) ∧ (0 ≤ ct.2.2.2.2.1 ∧ ct.2.2.2.2.1 < z_p2 ct.1.2.1) ∧ (-1 ≤ ct.2.2.2.2.2.1 ∧ ct.2.2.2.2.2.1 ≤ ct.1.1) ∧ (-1 ≤ ct.2.2.2.2.2.2.1 ∧ ct.2.2.2.2.2.2.1 ≤ ct.1.1 - 1) ∧ (ct.2.2.2.2.2.2.2 = 0 ∨ ct.2.2.2.2.2.2.2 = 1) ∧ ct.2.1.1 + ct.2.2.2.2.2.2.2 ≤ 99
theorem z_sok_new {sg : z_Sg} {t : Int} (h : z_sok sg t) : ∀ v : Int, 0 ≤ v → v < 32 → sg.2.2.1 v = 0 → sg.1 < 32 := by
  sorry
theorem z_td_I {w : z_Wv} {B : Int} (h : z_wok w B) : ∀ k : Int, 0 ≤ k → k ≤ w.2.1 → (0 ≤ (z_it (z_tdS w.1 w.2.1 w.2.2.2.2.1) (0, w.2.2.1, w.2.2.2.1, w.2.2.2.2.2.1, w.2.2.2.2.2.2) k.toNat).1 ∧ (z_it (z_tdS w.1 w.2.1 w.2.2.2.2.1) (0, w.2.2.1, w.2.2.2.1, w.2.2.2.2.2.1, w.2.2.2.2.2.2) k.toNat).1 ≤ k * B) ∧
    z_wok (w.1, w.2.1, (z_it (z_tdS w.1 w.2.1 w.2.2.2.2.1) (0, w.2.2.1, w.2.2.2.1, w.2.2.2.2.2.1, w.2.2.2.2.2.2) k.toNat).2.1, (z_it (z_tdS w.1 w.2.1 w.2.2.2.2.1) (0, w.2.2.1, w.2.2.2.1, w.2.2.2.2.2.1, w.2.2.2.2.2.2) k.toNat).2.2.1, w.2.2.2.2.1, (z_it (z_tdS w.1 w.2.1 w.2.2.2.2.1) (0, w.2.2.1, w.2.2.2.1, w.2.2.2.2.2.1, w.2.2.2.2.2.2) k.toNat).2.2.2.1, (z_it (z_tdS w.1 w.2.1 w.2.2.2.2.1) (0, w.2.2.1, w.2.2.2.1, w.2.2.2.2.2.1, w.2.2.2.2.2.2) k.toNat).2.2.2.2) B := by
  sorry
theorem z_wok_du {w : z_Wv} {B : Int} (h : z_wok w B) : ∀ i : Int, 0 ≤ i → i < 105 → w.2.2.2.2.2.2 i ≤ B := by
  sorry
theorem z_wok_ow {w : z_Wv} {B : Int} (h : z_wok w B) : 0 ≤ w.2.2.2.1 ∧ w.2.2.2.1 ≤ 5 * B := by
  sorry
theorem z_ok_nano {ct : z_Ct} (h : z_ok ct) : z_ok (z_nano ct) := by
  sorry
theorem z_ok_take {ct : z_Ct} (h : z_ok ct) (h1 : ¬ ct.2.2.2.2.2.1 = ct.1.1) : z_ok (z_take ct) := by
  sorry
theorem z_narV {x : Int} (h : x = 0 ∨ x = 1) : narrow .boolean (.int (z_I x)) = .int (z_I x) := by rcases h with rfl | rfl <;> decide
