/-! ===== the safe gap, the stage to blame ===== -/
theorem x_sf_w {st g : Int} {dl : Int → Int} (hst : 1 ≤ st ∧ st ≤ 5) (hdl : ∀ j : Int, 0 ≤ j → j < 5 → 1 ≤ dl j ∧ dl j ≤ 20) (hg : 1 ≤ g ∧ g ≤ 50) : z_wc st dl g = 0 ↔ z_sf st dl ≤ g := by
  rw [z_wc_0 hst hdl hg]
  unfold z_sf
  split <;> omega
theorem x_sf_rng {st : Int} {dl : Int → Int} (hst : 1 ≤ st ∧ st ≤ 5) (hdl : ∀ j : Int, 0 ≤ j → j < 5 → 1 ≤ dl j ∧ dl j ≤ 20) : 2 ≤ z_sf st dl ∧ z_sf st dl ≤ 51 := by
  have h := z_th_rng hst hdl
  unfold z_sf
  split <;> omega
/-- what safeGap answers -/
theorem x_sg {st : Int} {dl : Int → Int} (hst : 1 ≤ st ∧ st ≤ 5) (hdl : ∀ j : Int, 0 ≤ j → j < 5 → 1 ≤ dl j ∧ dl j ≤ 20) : (if (if 50 < z_it (fun j a => a + dl j) 0 st.toNat then 50 else z_it (fun j a => a + dl j) 0 st.toNat) + 1 ≤ 50 then (if 50 < z_it (fun j a => a + dl j) 0 st.toNat then 50 else z_it (fun j a => a + dl j) 0 st.toNat) + 1 else -6) = if z_sf st dl ≤ 50 then z_sf st dl else -6 := rfl
/-- a delay is made one, and brought back -/
theorem x_cd1 {ct : z_Ct} {k : Int} (hk : 0 ≤ k ∧ k < ct.1.2.1) : z_cd ct k 1 = (((ct.1.1, ct.1.2.1, ct.1.2.2.1, ct.1.2.2.2.1, z_u ct.1.2.2.2.2.1 k 1, ct.1.2.2.2.2.2.1, ct.1.2.2.2.2.2.2), ct.2.1, ct.2.2.1, ct.2.2.2.1, ct.2.2.2.2.1, ct.2.2.2.2.2.1, ct.2.2.2.2.2.2.1, ct.2.2.2.2.2.2.2), ct.1.2.2.2.2.1 k) := by
  unfold z_cd
  rw [if_pos hk, if_pos (by omega)]
theorem x_u_back (f : Int → Int) (k v : Int) : z_u (z_u f k v) k (f k) = f := by
  funext j
  unfold z_u
  by_cases c : j = k
  · rw [if_pos c, c]
  · rw [if_neg c, if_neg c]
theorem x_cd2 {ct : z_Ct} {k : Int} (hk : 0 ≤ k ∧ k < ct.1.2.1) (hd : 1 ≤ ct.1.2.2.2.2.1 k ∧ ct.1.2.2.2.2.1 k ≤ 20) : z_cd (((ct.1.1, ct.1.2.1, ct.1.2.2.1, ct.1.2.2.2.1, z_u ct.1.2.2.2.2.1 k 1, ct.1.2.2.2.2.2.1, ct.1.2.2.2.2.2.2), ct.2.1, ct.2.2.1, ct.2.2.2.1, ct.2.2.2.2.1, ct.2.2.2.2.2.1, ct.2.2.2.2.2.2.1, ct.2.2.2.2.2.2.2)) k (ct.1.2.2.2.2.1 k) = (ct, 1) := by
  unfold z_cd
  dsimp only
  rw [if_pos hk, if_pos hd, x_u_back, z_u_same]
theorem x_tb_s {st : Int} {dl : Int → Int} {k bl le : Int} (hk : 0 ≤ k) (h : (k = 0 ∧ le = 99) ∨ (1 ≤ k ∧ (bl, le) = z_it (fun j q => if z_gif st dl (j + 1) < q.2 then (j + 1, z_gif st dl (j + 1)) else q) (0, z_gif st dl 0) (k - 1).toNat)) (h0 : z_gif st dl 0 ≤ 51) : (if z_gif st dl k < le then k else bl, if z_gif st dl k < le then z_gif st dl k else le) = z_it (fun j q => if z_gif st dl (j + 1) < q.2 then (j + 1, z_gif st dl (j + 1)) else q) (0, z_gif st dl 0) (k + 1 - 1).toNat := by
  rcases h with ⟨rfl, rfl⟩ | ⟨h1, h2⟩
  · rw [if_pos (by omega), if_pos (by omega)]
    rfl
  · exact z_tb_s hk (Or.inr ⟨h1, h2⟩) h0
/-! ===== the least of all: numbers of the law ===== -/
def x_lo (v n : Int) : Int := (z_I v &&& z_I 2147483647).toInt % n
theorem x_lo_and (v : Int) : 0 ≤ (z_I v &&& z_I 2147483647).toInt ∧ (z_I v &&& z_I 2147483647).toInt < 2147483648 := by
  have h1 := z_rng (z_I v &&& z_I 2147483647)
  refine ⟨?_, h1.2⟩
  have h2 : (z_I v &&& z_I 2147483647).toBitVec.msb = false := by
    rw [Int32.toBitVec_and, BitVec.msb_and]
    rw [show (z_I 2147483647).toBitVec.msb = false by decide, Bool.and_false]
  have h3 : (z_I v &&& z_I 2147483647).toInt = (z_I v &&& z_I 2147483647).toBitVec.toInt := rfl
  rw [h3]
  exact BitVec.toInt_nonneg_of_msb_false h2
theorem x_lo_rng (v : Int) {n : Int} (hn : 0 < n) : 0 ≤ x_lo v n ∧ x_lo v n < n := by
  have h := x_lo_and v
  exact ⟨Int.emod_nonneg _ (by omega), Int.emod_lt_of_pos _ hn⟩
def x_sr (v n : Int) : Int := (z_I v >>> (z_I n &&& 31)).toInt
theorem x_sr_eq (v n : Int) : z_I v >>> (z_I n &&& 31) = z_I (x_sr v n) := (z_I_of _).symm
theorem x_sr_rng (v n : Int) : -2147483648 ≤ x_sr v n ∧ x_sr v n < 2147483648 := z_rng _
def x_an (v n : Int) : Int := (z_I v &&& z_I n).toInt
theorem x_an_eq (v n : Int) : z_I v &&& z_I n = z_I (x_an v n) := (z_I_of _).symm
theorem x_an_rng (v n : Int) : -2147483648 ≤ x_an v n ∧ x_an v n < 2147483648 := z_rng _
theorem x_shl1 {k : Int} (hk : 0 ≤ k ∧ k ≤ 5) : z_I 1 <<< (z_I k &&& 31) = z_I (z_p2 k) := z_shl1 (by omega)
/-- a set that hasn't a number -/
theorem x_smod : ∀ n : Nat, n < 32 → ((z_I (n : Int) &&& 31).toBitVec.smod 32).toNat = n := by decide +kernel
theorem x_bit1 {a k : Int} (hk : 0 ≤ k ∧ k < 32) (ha : (z_I a).toBitVec.getLsbD k.toNat = false) : x_an (x_sr a k) 1 = 0 := by
  obtain ⟨n, rfl⟩ := Int.eq_ofNat_of_zero_le hk.1
  have h1 := x_smod n (by omega)
  unfold x_an
  rw [← x_sr_eq, show (0 : Int) = (z_I 0).toInt by decide]
  congr 1
  apply Int32.toBitVec.inj
  rw [Int32.toBitVec_and, Int32.toBitVec_shiftRight]
  apply BitVec.eq_of_getLsbD_eq
  intro i hi
  rw [BitVec.getLsbD_and, show (z_I 1).toBitVec = 1#32 from rfl, show (z_I 0).toBitVec = 0#32 from rfl, BitVec.getLsbD_zero, BitVec.getLsbD_one]
  by_cases q : i = 0
  · subst q
    rw [BitVec.sshiftRight', BitVec.getLsbD_sshiftRight, h1, if_pos (by omega)]
    rw [Int.toNat_natCast] at ha
    rw [Nat.add_zero, ha]
    simp
  · have : decide (i = 0) = false := by simp [q]
    simp [this, q]
/-- numbers that were seen, put together in their order -/
def x_set (X rk : Int → Int) (n : Nat) : Int := z_it (fun j a => z_or a (if 0 < X (rk j) then z_p2 (rk j) else 0)) 0 n
theorem x_set_bit {X rk : Int → Int} {sn n : Int} (hn : 0 ≤ n ∧ n < sn) (hrk : ∀ j : Int, 0 ≤ j → j < sn → 0 ≤ rk j ∧ rk j < 32) (hinj : ∀ i j : Int, 0 ≤ i → i < j → j < sn → ¬ rk i = rk j) : x_an (x_sr (x_set X rk n.toNat) (rk n)) 1 = 0 := by
  have h1 := hrk n hn.1 hn.2
  refine x_bit1 h1 ?_
  have h2 := (z_set2 X rk sn hrk n.toNat (by omega)).2 (rk n).toNat (by omega)
  cases h3 : (z_I (x_set X rk n.toNat)).toBitVec.getLsbD (rk n).toNat with
  | false => rfl
  | true =>
    obtain ⟨-, j, j1, j2, j3⟩ := h2.mp h3
    exact absurd (by omega) (hinj j n j1 (by omega) hn.2)
theorem x_set_s {X rk : Int → Int} {n : Int} (hn : 0 ≤ n) : x_set X rk (n + 1).toNat = z_or (x_set X rk n.toNat) (if 0 < X (rk n) then z_p2 (rk n) else 0) := by
  unfold x_set
  exact z_it_next _ _ hn
theorem x_set_E {X rk : Int → Int} {sn : Int} (hsn : 0 ≤ sn) (hrk : ∀ j : Int, 0 ≤ j → j < sn → 0 ≤ rk j ∧ rk j < 32) (hs : ∀ v : Int, 0 ≤ v → v < 32 → 0 < X v → ∃ j : Int, 0 ≤ j ∧ j < sn ∧ rk j = v) : z_it (fun j a => if 0 < X j then z_or a (z_p2 j) else a) 0 32 = x_set X rk sn.toNat := (z_setE hsn hrk hs).symm
theorem x_set_can (X rk : Int → Int) (n : Nat) : -2147483648 ≤ x_set X rk n ∧ x_set X rk n < 2147483648 := by
  cases n with
  | zero => exact ⟨by show (-2147483648 : Int) ≤ 0; decide, by show (0 : Int) < 2147483648; decide⟩
  | succ n => exact z_rng _
theorem x_set_can1 (X : Int → Int) : -2147483648 ≤ z_it (fun j a => if 0 < X j then z_or a (z_p2 j) else a) 0 32 ∧ z_it (fun j a => if 0 < X j then z_or a (z_p2 j) else a) 0 32 < 2147483648 := by
  have h := (z_set1 X 32 (by omega)).1
  have h2 := z_rng (z_I (z_it (fun j a => if 0 < X j then z_or a (z_p2 j) else a) 0 32))
  omega
