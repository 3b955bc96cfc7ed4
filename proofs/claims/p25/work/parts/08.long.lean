/-! ===== longs: a number from 0 to 2^64 - 1 stands for the long of its bits ===== -/
def z_L (u : Int) : Int64 := Int64.ofInt u
def z_cmp (x y : Int64) : Int := (lg_cmp x y).toInt
theorem z_L_nat (n : Nat) : z_L (n : Int) = Int64.ofNat n := Int64.ofInt_eq_ofNat
theorem z_L_inj {a b : Int} (ha : 0 ≤ a ∧ a < 18446744073709551616) (hb : 0 ≤ b ∧ b < 18446744073709551616) (h : z_L a = z_L b) : a = b := by
  obtain ⟨x, rfl⟩ := Int.eq_ofNat_of_zero_le ha.1
  obtain ⟨y, rfl⟩ := Int.eq_ofNat_of_zero_le hb.1
  rw [z_L_nat, z_L_nat] at h
  have h1 := congrArg (fun z => z.toBitVec.toNat) h
  simp only [Int64.toBitVec_ofNat', BitVec.toNat_ofNat] at h1
  rw [Nat.mod_eq_of_lt (by omega), Nat.mod_eq_of_lt (by omega)] at h1
  rw [h1]
theorem z_cmp0 {u : Int} (hu : 0 ≤ u ∧ u < 18446744073709551616) : z_cmp (z_L u) (z_L 0) = 0 ↔ u = 0 := by
  constructor
  · intro h
    by_cases q : z_L u = z_L 0
    · exact z_L_inj hu (by omega) q
    · exfalso
      unfold z_cmp lg_cmp at h
      by_cases g : z_L u > z_L 0
      · rw [if_pos g] at h
        revert h; decide
      · rw [if_neg g, if_neg q] at h
        revert h; decide
  · rintro rfl
    unfold z_cmp lg_cmp
    simp
theorem z_land255 {u : Int} (hu : 0 ≤ u ∧ u < 18446744073709551616) : z_L u &&& z_L 255 = z_L (u % 256) := by
  obtain ⟨x, rfl⟩ := Int.eq_ofNat_of_zero_le hu.1
  rw [show ((x : Int) % 256) = ((x % 256 : Nat) : Int) by omega, show (255 : Int) = ((255 : Nat) : Int) from rfl, z_L_nat, z_L_nat, z_L_nat]
  apply Int64.toBitVec.inj
  rw [Int64.toBitVec_and, Int64.toBitVec_ofNat', Int64.toBitVec_ofNat', Int64.toBitVec_ofNat']
  apply BitVec.eq_of_toNat_eq
  rw [BitVec.toNat_and, BitVec.toNat_ofNat, BitVec.toNat_ofNat, BitVec.toNat_ofNat]
  rw [Nat.mod_eq_of_lt (by omega : x < 2 ^ 64), Nat.mod_eq_of_lt (by omega : 255 < 2 ^ 64), Nat.mod_eq_of_lt (by omega : x % 256 < 2 ^ 64)]
  exact Nat.and_two_pow_sub_one_eq_mod x 8
theorem z_dsh8 : ∀ k : Nat, k < 8 → ((Int32.ofInt (8 * (k : Int))).toInt64.toUInt64 &&& Int64.toUInt64 63) = UInt64.ofNat (8 * k) := by decide +kernel
theorem z_lushr8 {u k : Int} (hu : 0 ≤ u ∧ u < 18446744073709551616) (hk : 0 ≤ k ∧ k < 8) : ((z_L u).toUInt64 >>> ((z_I (8 * k)).toInt64.toUInt64 &&& Int64.toUInt64 63)).toInt64 = z_L (u / z_p2 (8 * k)) := by
  obtain ⟨x, rfl⟩ := Int.eq_ofNat_of_zero_le hu.1
  obtain ⟨j, rfl⟩ := Int.eq_ofNat_of_zero_le hk.1
  have h1 := z_dsh8 j (by omega)
  unfold z_I
  rw [h1, show (8 * (j : Int)) = ((8 * j : Nat) : Int) by push_cast; rfl, z_p2_nat, show ((x : Int) / ((2 ^ (8 * j) : Nat) : Int)) = ((x / 2 ^ (8 * j) : Nat) : Int) by push_cast; rfl, z_L_nat, z_L_nat]
  apply Int64.toBitVec.inj
  rw [UInt64.toBitVec_toInt64, Int64.toBitVec_ofNat']
  apply BitVec.eq_of_toNat_eq
  have h2 : (UInt64.ofNat (8 * j)).toNat = 8 * j := by rw [UInt64.toNat_ofNat']; exact Nat.mod_eq_of_lt (by omega)
  show ((Int64.ofNat x).toUInt64 >>> UInt64.ofNat (8 * j)).toNat = _
  have h4 : x / 2 ^ (8 * j) < 2 ^ 64 := Nat.lt_of_le_of_lt (Nat.div_le_self _ _) (by omega)
  rw [UInt64.toNat_shiftRight, h2, Nat.mod_eq_of_lt (by omega : 8 * j < 64), Nat.shiftRight_eq_div_pow, BitVec.toNat_ofNat, Nat.mod_eq_of_lt h4]
  congr 1
  rw [Int64.toUInt64_ofNat', UInt64.toNat_ofNat']
  exact Nat.mod_eq_of_lt (by omega)
theorem z_dsh8s : ∀ k : Nat, k < 8 → ((Int32.ofInt (8 * (k : Int))).toInt64 &&& 63) = Int64.ofNat (8 * k) := by decide +kernel
theorem z_dsh8m : ∀ k : Nat, k < 8 → ((Int64.ofNat (8 * k)).toBitVec.smod 64) = BitVec.ofNat 64 (8 * k) := by decide +kernel
theorem z_lshr8 {u k : Int} (hu : 0 ≤ u ∧ u < 18446744073709551616) (hk : 0 ≤ k ∧ k < 8) : (z_L u >>> ((z_I (8 * k)).toInt64 &&& 63)) &&& z_L 255 = z_L (u / z_p2 (8 * k) % 256) := by
  obtain ⟨x, rfl⟩ := Int.eq_ofNat_of_zero_le hu.1
  obtain ⟨j, rfl⟩ := Int.eq_ofNat_of_zero_le hk.1
  have h1 := z_dsh8s j (by omega)
  unfold z_I
  rw [h1, show (8 * (j : Int)) = ((8 * j : Nat) : Int) by push_cast; rfl, z_p2_nat, show ((x : Int) / ((2 ^ (8 * j) : Nat) : Int)) % 256 = ((x / 2 ^ (8 * j) % 256 : Nat) : Int) by (rw [show ((x : Int) / ((2 ^ (8 * j) : Nat) : Int)) = ((x / 2 ^ (8 * j) : Nat) : Int) by push_cast; rfl]); omega, show (255 : Int) = ((255 : Nat) : Int) from rfl, z_L_nat, z_L_nat, z_L_nat]
  apply Int64.toBitVec.inj
  rw [Int64.toBitVec_and, Int64.toBitVec_shiftRight, z_dsh8m j (by omega), Int64.toBitVec_ofNat', Int64.toBitVec_ofNat', Int64.toBitVec_ofNat']
  apply BitVec.eq_of_getLsbD_eq
  intro i hi
  rw [BitVec.getLsbD_and]
  unfold BitVec.sshiftRight'
  rw [BitVec.getLsbD_sshiftRight, BitVec.getLsbD_ofNat, BitVec.getLsbD_ofNat]
  have h5 : (BitVec.ofNat 64 (8 * j)).toNat = 8 * j := by rw [BitVec.toNat_ofNat]; exact Nat.mod_eq_of_lt (by omega)
  rw [h5]
  have e255 : (255 : Nat).testBit i = decide (i < 8) := by
    have := Nat.testBit_two_pow_sub_one 8 i
    simpa using this
  rw [e255, show (256 : Nat) = 2 ^ 8 from rfl, BitVec.getLsbD_ofNat, Nat.testBit_mod_two_pow, Nat.testBit_div_two_pow]
  by_cases h8 : i < 8
  · simp [h8, hi, show ¬ (64 ≤ i) by omega, show i + 8 * j < 64 by omega, Nat.add_comm]
  · simp [h8]
section ZL
variable {p : Program} {l : Launch} {e : Env} {R : Room} {s : State} {m : MethodId} {args : Array Value} {below : List Frame} {meth : Method} {c : Code} {D : va_G} {tys : List (ClassId × FieldType)} {A : Nat → Prop} {cc : ByteArray} {nL cells slots : Nat} {own : String} {Ts : List Cond} {ret : Option FieldType} {Q : State → Prop} {ws : va_W} {pc : Nat} {lv : List (Nat × Value)} {st : List Value}
theorem z_lconst (C : z_C p s m args meth c D tys A cc nL own Ts ret) (v : Int) {n : Fin 2} (hdg : decode cc pc = .ok (.lconst n, 1)) (hv : Int64.ofNat (n : Nat) = z_L v) (kk : z_V p l e R s m args below meth c D A nL cells slots Q ws (pc + 1) lv (.long (z_L v) :: st)) : z_V p l e R s m args below meth c D A nL cells slots Q ws pc lv (st) :=
  fun H locs ls hP hD hS h => lv_lconst C.1 C.2.1 hdg hv (kk H locs ls hP hD hS h)
theorem z_ldc2 (C : z_C p s m args meth c D tys A cc nL own Ts ret) (v : Int) {index : Nat} {w : Int64} (hc : Cond.constantLong own index w ∈ Ts) (hv : w = z_L v) (hdg : decode cc pc = .ok (.ldc2_w index, 3)) (kk : z_V p l e R s m args below meth c D A nL cells slots Q ws (pc + 3) lv (.long (z_L v) :: st)) : z_V p l e R s m args below meth c D A nL cells slots Q ws pc lv st :=
  fun H locs ls hP hD hS h => lv_ldc2 C.1 C.2.1 C.2.2.2.1 (C.2.2.2.2.1 _ hc) hdg (hv ▸ kk H locs ls hP hD hS h)
theorem z_land (C : z_C p s m args meth c D tys A cc nL own Ts ret) {x y : Int64} (r : Int) (hdg : decode cc pc = .ok (.land, 1)) (hr : x &&& y = z_L r) (kk : z_V p l e R s m args below meth c D A nL cells slots Q ws (pc + 1) lv (.long (z_L r) :: st)) : z_V p l e R s m args below meth c D A nL cells slots Q ws pc lv (.long y :: .long x :: st) :=
  fun H locs ls hP hD hS h => lv_land C.1 C.2.1 hdg (by rw [hr]; exact kk H locs ls hP hD hS h)
theorem z_lor (C : z_C p s m args meth c D tys A cc nL own Ts ret) {x y : Int64} (r : Int) (hdg : decode cc pc = .ok (.lor, 1)) (hr : x ||| y = z_L r) (kk : z_V p l e R s m args below meth c D A nL cells slots Q ws (pc + 1) lv (.long (z_L r) :: st)) : z_V p l e R s m args below meth c D A nL cells slots Q ws pc lv (.long y :: .long x :: st) :=
  fun H locs ls hP hD hS h => lv_lor C.1 C.2.1 hdg (by rw [hr]; exact kk H locs ls hP hD hS h)
theorem z_lushr (C : z_C p s m args meth c D tys A cc nL own Ts ret) {x : Int64} {y : Int32} (r : Int) (hdg : decode cc pc = .ok (.lushr, 1)) (hr : (x.toUInt64 >>> (y.toInt64.toUInt64 &&& Int64.toUInt64 63)).toInt64 = z_L r) (kk : z_V p l e R s m args below meth c D A nL cells slots Q ws (pc + 1) lv (.long (z_L r) :: st)) : z_V p l e R s m args below meth c D A nL cells slots Q ws pc lv (.int y :: .long x :: st) :=
  fun H locs ls hP hD hS h => lv_lushr C.1 C.2.1 hdg hr (kk H locs ls hP hD hS h)
theorem z_lshr (C : z_C p s m args meth c D tys A cc nL own Ts ret) {x : Int64} {y : Int32} (hdg : decode cc pc = .ok (.lshr, 1)) (kk : z_V p l e R s m args below meth c D A nL cells slots Q ws (pc + 1) lv (.long (x >>> (y.toInt64 &&& 63)) :: st)) : z_V p l e R s m args below meth c D A nL cells slots Q ws pc lv (.int y :: .long x :: st) :=
  fun H locs ls hP hD hS h => lv_lshr C.1 C.2.1 hdg rfl (kk H locs ls hP hD hS h)
theorem z_lshl (C : z_C p s m args meth c D tys A cc nL own Ts ret) {x : Int64} {y : Int32} (r : Int) (hdg : decode cc pc = .ok (.lshl, 1)) (hr : x <<< (y.toInt64 &&& 63) = z_L r) (kk : z_V p l e R s m args below meth c D A nL cells slots Q ws (pc + 1) lv (.long (z_L r) :: st)) : z_V p l e R s m args below meth c D A nL cells slots Q ws pc lv (.int y :: .long x :: st) :=
  fun H locs ls hP hD hS h => lv_lshl C.1 C.2.1 hdg hr (kk H locs ls hP hD hS h)
theorem z_l2i (C : z_C p s m args meth c D tys A cc nL own Ts ret) {x : Int} (hdg : decode cc pc = .ok (.l2i, 1)) (kk : z_V p l e R s m args below meth c D A nL cells slots Q ws (pc + 1) lv (.int (z_I x) :: st)) : z_V p l e R s m args below meth c D A nL cells slots Q ws pc lv (.long (z_L x) :: st) :=
  fun H locs ls hP hD hS h => lv_l2i C.1 C.2.1 hdg Int64.toInt32_ofInt (kk H locs ls hP hD hS h)
theorem z_i2l (C : z_C p s m args meth c D tys A cc nL own Ts ret) {x : Int32} (r : Int) (hdg : decode cc pc = .ok (.i2l, 1)) (hr : x.toInt64 = z_L r) (kk : z_V p l e R s m args below meth c D A nL cells slots Q ws (pc + 1) lv (.long (z_L r) :: st)) : z_V p l e R s m args below meth c D A nL cells slots Q ws pc lv (.int x :: st) :=
  fun H locs ls hP hD hS h => lv_i2l C.1 C.2.1 hdg hr (kk H locs ls hP hD hS h)
theorem z_lcmp (C : z_C p s m args meth c D tys A cc nL own Ts ret) {x y : Int64} (hdg : decode cc pc = .ok (.lcmp, 1)) (kk : z_V p l e R s m args below meth c D A nL cells slots Q ws (pc + 1) lv (.int (z_I (z_cmp x y)) :: st)) : z_V p l e R s m args below meth c D A nL cells slots Q ws pc lv (.long y :: .long x :: st) :=
  fun H locs ls hP hD hS h => W.lcmp C.1 C.2.1 hdg (by rw [show lg_cmp x y = z_I (z_cmp x y) from (z_I_of _).symm]; exact kk H locs ls hP hD hS h)
end ZL
