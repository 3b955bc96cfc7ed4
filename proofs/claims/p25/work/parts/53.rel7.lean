theorem z_onW {c : z_Ct} {b k : Int} {f : Int → Int} (h : z_rel c b f) (ht : 0 ≤ c.1.1) (hk : 0 ≤ k ∧ k < 5) : z_it (fun i a => a + f (b + 24 + 21 * k + i)) 0 21 = z_it (fun j a => a + c.1.2.2.2.2.2.2 (k * 21 + j)) 0 21 := by
  obtain ⟨n, hn⟩ := Int.eq_ofNat_of_zero_le ht
  have e1 : z_it (fun i a => a + f (b + 24 + 21 * k + i)) 0 21 = z_S (fun i => c.1.2.2.2.2.2.2 (k * 21 + ((n : Int) + i) % 21)) 0 21 := by
    unfold z_S
    refine z_it_congr 21 (fun i a i1 i2 => ?_)
    show a + f (b + 24 + 21 * k + i) = a + c.1.2.2.2.2.2.2 (k * 21 + ((n : Int) + (0 + i)) % 21)
    rw [h.2.2.1 k i hk.1 hk.2 i1 (by omega) trivial, ← hn, show (0 : Int) + i = i by omega]
  rw [e1, z_S_rot (fun i => c.1.2.2.2.2.2.2 (k * 21 + i)) n]
  exact z_S_congr (b := k * 21) 21 (fun i i1 i2 => by
    show c.1.2.2.2.2.2.2 (k * 21 + (0 + i) % 21) = c.1.2.2.2.2.2.2 (k * 21 + i)
    exact congrArg c.1.2.2.2.2.2.2 (by omega))
theorem z_or_can (a b : Int) : (z_I (z_or a b)).toInt = z_or a b := by
  unfold z_or
  rw [z_I_of]
theorem z_or_bit (a b : Int) (i : Nat) : (z_I (z_or a b)).toBitVec.getLsbD i = ((z_I a).toBitVec.getLsbD i || (z_I b).toBitVec.getLsbD i) := by
  rw [← z_or_eq, Int32.toBitVec_or, BitVec.getLsbD_or]
theorem z_p2_bit (v : Nat) (hv : v < 32) (i : Nat) (hi : i < 32) : (z_I (z_p2 (v : Int))).toBitVec.getLsbD i = decide (v = i) := by
  rw [z_p2_nat, z_I_nat, Int32.toBitVec_ofNat', BitVec.getLsbD_ofNat, Nat.testBit_two_pow]
  simp [hi]
theorem z_set1 (X : Int → Int) : ∀ n : Nat, n ≤ 32 → (z_I (z_it (fun j a => if 0 < X j then z_or a (z_p2 j) else a) 0 n)).toInt = z_it (fun j a => if 0 < X j then z_or a (z_p2 j) else a) 0 n ∧ ∀ i : Nat, i < 32 → ((z_I (z_it (fun j a => if 0 < X j then z_or a (z_p2 j) else a) 0 n)).toBitVec.getLsbD i = true ↔ (i < n ∧ 0 < X (i : Int)))
  | 0, _ => ⟨(show (z_I 0).toInt = 0 by decide), fun i hi => by
      show (z_I 0).toBitVec.getLsbD i = true ↔ _
      rw [show (z_I 0).toBitVec = 0#32 from rfl]
      simp⟩
  | n + 1, h => by
    obtain ⟨h1, h2⟩ := z_set1 X n (by omega)
    show (z_I (if 0 < X (n : Int) then z_or (z_it (fun j a => if 0 < X j then z_or a (z_p2 j) else a) 0 n) (z_p2 (n : Int)) else z_it (fun j a => if 0 < X j then z_or a (z_p2 j) else a) 0 n)).toInt = (if 0 < X (n : Int) then z_or (z_it (fun j a => if 0 < X j then z_or a (z_p2 j) else a) 0 n) (z_p2 (n : Int)) else z_it (fun j a => if 0 < X j then z_or a (z_p2 j) else a) 0 n) ∧ ∀ i : Nat, i < 32 → ((z_I (if 0 < X (n : Int) then z_or (z_it (fun j a => if 0 < X j then z_or a (z_p2 j) else a) 0 n) (z_p2 (n : Int)) else z_it (fun j a => if 0 < X j then z_or a (z_p2 j) else a) 0 n)).toBitVec.getLsbD i = true ↔ (i < n + 1 ∧ 0 < X (i : Int)))
    by_cases q : 0 < X (n : Int)
    · rw [if_pos q]
      refine ⟨z_or_can _ _, fun i hi => ?_⟩
      rw [z_or_bit, Bool.or_eq_true, h2 i hi, z_p2_bit n (by omega) i hi, decide_eq_true_iff]
      constructor
      · rintro (z | z)
        · exact ⟨by omega, z.2⟩
        · subst z; exact ⟨by omega, q⟩
      · rintro ⟨z1, z2⟩
        by_cases z3 : n = i
        · exact Or.inr z3
        · exact Or.inl ⟨by omega, z2⟩
    · rw [if_neg q]
      refine ⟨h1, fun i hi => ?_⟩
      rw [h2 i hi]
      constructor
      · rintro ⟨z1, z2⟩; exact ⟨by omega, z2⟩
      · rintro ⟨z1, z2⟩
        by_cases z3 : n = i
        · subst z3; exact absurd z2 q
        · exact ⟨by omega, z2⟩
theorem z_set2 (X rk : Int → Int) (sn : Int) (hrk : ∀ j : Int, 0 ≤ j → j < sn → 0 ≤ rk j ∧ rk j < 32) : ∀ n : Nat, (n : Int) ≤ sn → (z_I (z_it (fun j a => z_or a (if 0 < X (rk j) then z_p2 (rk j) else 0)) 0 n)).toInt = z_it (fun j a => z_or a (if 0 < X (rk j) then z_p2 (rk j) else 0)) 0 n ∧ ∀ i : Nat, i < 32 → ((z_I (z_it (fun j a => z_or a (if 0 < X (rk j) then z_p2 (rk j) else 0)) 0 n)).toBitVec.getLsbD i = true ↔ (0 < X (i : Int) ∧ ∃ j : Int, 0 ≤ j ∧ j < n ∧ rk j = i))
  | 0, _ => ⟨(show (z_I 0).toInt = 0 by decide), fun i hi => by
      show (z_I 0).toBitVec.getLsbD i = true ↔ _
      rw [show (z_I 0).toBitVec = 0#32 from rfl]
      constructor
      · intro h; simp at h
      · rintro ⟨-, j, j1, j2, -⟩; omega⟩
  | n + 1, h => by
    obtain ⟨h1, h2⟩ := z_set2 X rk sn hrk n (by omega)
    have hr := hrk (n : Int) (by omega) (by omega)
    obtain ⟨v, hv⟩ := Int.eq_ofNat_of_zero_le hr.1
    refine ⟨z_or_can _ _, fun i hi => ?_⟩
    show (z_I (z_or (z_it (fun j a => z_or a (if 0 < X (rk j) then z_p2 (rk j) else 0)) 0 n) (if 0 < X (rk (n : Int)) then z_p2 (rk (n : Int)) else 0))).toBitVec.getLsbD i = true ↔ _
    rw [z_or_bit, Bool.or_eq_true, h2 i hi]
    by_cases q : 0 < X (rk (n : Int))
    · rw [if_pos q, hv, z_p2_bit v (by omega) i hi, decide_eq_true_iff]
      constructor
      · rintro (⟨z1, j, j1, j2, j3⟩ | z)
        · exact ⟨z1, j, j1, by omega, j3⟩
        · subst z; rw [hv] at q; exact ⟨q, n, by omega, by omega, hv⟩
      · rintro ⟨z1, j, j1, j2, j3⟩
        by_cases z3 : j = n
        · right; subst z3; omega
        · left; exact ⟨z1, j, j1, by omega, j3⟩
    · rw [if_neg q, show (z_I 0).toBitVec = 0#32 from rfl]
      constructor
      · rintro (⟨z1, j, j1, j2, j3⟩ | z)
        · exact ⟨z1, j, j1, by omega, j3⟩
        · simp at z
      · rintro ⟨z1, j, j1, j2, j3⟩
        by_cases z3 : j = n
        · subst z3; rw [j3] at q; exact absurd z1 q
        · left; exact ⟨z1, j, j1, by omega, j3⟩
theorem z_setE {X rk : Int → Int} {sn : Int} (hsn : 0 ≤ sn) (hrk : ∀ j : Int, 0 ≤ j → j < sn → 0 ≤ rk j ∧ rk j < 32) (hs : ∀ v : Int, 0 ≤ v → v < 32 → 0 < X v → ∃ j : Int, 0 ≤ j ∧ j < sn ∧ rk j = v) :
    z_it (fun j a => z_or a (if 0 < X (rk j) then z_p2 (rk j) else 0)) 0 sn.toNat = z_it (fun j a => if 0 < X j then z_or a (z_p2 j) else a) 0 32 := by
  obtain ⟨a1, a2⟩ := z_set1 X 32 (by omega)
  obtain ⟨b1, b2⟩ := z_set2 X rk sn hrk sn.toNat (by omega)
  rw [← a1, ← b1]
  congr 1
  apply Int32.toBitVec.inj
  apply BitVec.eq_of_getLsbD_eq
  intro i hi
  rw [Bool.eq_iff_iff, a2 i hi, b2 i hi]
  constructor
  · rintro ⟨z1, -⟩; exact ⟨hi, z1⟩
  · rintro ⟨-, z1⟩
    obtain ⟨j, j1, j2, j3⟩ := hs (i : Int) (by omega) (by omega) z1
    exact ⟨z1, j, j1, by omega, j3⟩
theorem z_fst_congr {f g : Int → Int} : ∀ (n : Nat) (j : Int), (∀ i : Int, j ≤ i → i < j + n → f i = g i) → z_fst f j n = z_fst g j n
  | 0, _, _ => rfl
  | n + 1, j, h => by
    show (if 0 < f j then j else z_fst f (j + 1) n) = (if 0 < g j then j else z_fst g (j + 1) n)
    rw [h j (by omega) (by omega), z_fst_congr n (j + 1) (fun i h1 h2 => h i (by omega) (by omega))]
theorem z_nxt {c : z_Ct} {k : Int} {f : Int → Int} (h : z_rel c 0 f) (hk : 0 ≤ k ∧ k < 5) : z_fst (fun i => f (0 + 24 + 21 * k + i)) 0 21 = z_fst (fun i => c.1.2.2.2.2.2.2 (k * 21 + (c.1.1 + i) % 21)) 0 21 :=
  z_fst_congr 21 0 (fun i i1 i2 => h.2.2.1 k i hk.1 hk.2 i1 (by omega) trivial)
theorem z_true {nu co ti la : Int → Int} (n : Nat) : z_it (fun j a => a + (if (4 : Int) = 0 then nu j else if (4 : Int) = 1 then ti j else if (4 : Int) = 2 then co j else if (4 : Int) = 3 then la j else if nu j = co j then 1 else 0)) 0 n = z_it (fun j a => if nu j = co j then a + 1 else a) 0 n := by
  refine z_it_congr n (fun k a k1 k2 => ?_)
  rw [if_neg (by decide), if_neg (by decide), if_neg (by decide), if_neg (by decide)]
  split <;> omega
theorem z_mh_undo {c : z_Ct} {kp od kn : Int} {hr : Int → z_Ct} {pf g : Int → Int} (h : z_mh kp od hr kn pf) (hkp : 0 < kp ∧ kp ≤ 6) (hhr : ∀ j : Int, 0 ≤ j → j < 7 → z_ok (hr j)) (hg : ∀ j : Int, 0 ≤ j → j < 356 → g j = pf (356 * (kn - 1) + j)) : z_rel (hr ((od + (kp - 1)) % 7)) 0 g ∧ z_mh (kp - 1) od hr (kn - 1) pf := by
  obtain ⟨rfl, h2⟩ := h
  have hk := hhr ((od + (kn - 1)) % 7) (by omega) (by omega)
  refine ⟨z_rel_shift (h2 (kn - 1) (by omega) (by omega)) (by have := hk.2.1.1; omega) (by have := hk.2.2.1.1; omega) (fun j j1 j2 => by rw [Int.zero_add]; exact hg j j1 j2), rfl, fun j j1 j2 => h2 j j1 (by omega)⟩
theorem z_mv_save {c : z_Ct} {k : Int} {sl : Int → z_Ct} {us slf svf f g : Int → Int} (h : z_mv sl us slf svf) (hk : 0 ≤ k ∧ k < 2) (hok : ∀ j : Int, 0 ≤ j → j < 2 → z_ok (sl j)) (hc : z_ok c) (hrel : z_rel c 0 f) (hg : ∀ j : Int, g j = if 356 * k ≤ j ∧ j < 356 * k + 356 then f (j - 356 * k) else slf j) : z_mv (z_uc sl k c) (z_u us k 1) g (z_u svf k 1) := by
  intro s s1 s2
  have h9 := h s s1 s2
  by_cases q : s = k
  · subst q
    rw [z_u_same, z_u_same]
    refine ⟨rfl, Or.inr rfl, fun _ => ?_⟩
    rw [show z_uc sl s c s = c from if_pos rfl]
    exact z_rel_shift hrel (by have := hc.2.1.1; omega) (by have := hc.2.2.1.1; omega) (fun j j1 j2 => by rw [hg _, if_pos (by omega)]; congr 1; omega)
  · rw [z_u_ne q, z_u_ne q, show z_uc sl k c s = sl s from if_neg q]
    have hk2 := hok s s1 s2
    refine ⟨h9.1, h9.2.1, fun z => ?_⟩
    exact z_rel_shift (h9.2.2 z) (by have := hk2.2.1.1; omega) (by have := hk2.2.2.1.1; omega) (fun j j1 j2 => by rw [hg _, if_neg (by omega)])
