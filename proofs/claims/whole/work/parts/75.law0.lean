/-! ===== the law: rows over its script, calls by blocks of a world that is told whole ===== -/
section ZLA
variable {p : Program} {l : Launch} {e : Env} {R : Room} {s : State} {m : MethodId} {args : Array Value} {below : List Frame} {meth : Method} {c : Code} {D : va_G} {tys : List (ClassId × FieldType)} {A : Nat → Prop} {cc : ByteArray} {nL cells slots : Nat} {own : String} {Ts : List Cond} {ret : Option FieldType} {Q : State → Prop} {ws : va_W} {pc : Nat} {lv : List (Nat × Value)} {st : List Value}
/-- a script's int, as a number -/
def lw_x (xs : Nat → Int32) (i : Int) : Int := (xs i.toNat).toInt
theorem lw_x_rng (xs : Nat → Int32) (i : Int) : -2147483648 ≤ lw_x xs i ∧ lw_x xs i < 2147483648 := z_rng _
theorem z_sld (C : z_C p s m args meth c D tys A cc nL own Ts ret) {b L : Nat} {xs : Nat → Int32} {i : Int} (hX : va_X b L xs s s.heap) (hbl : b < s.heap.size) (hbA : ¬ A b) (hL : L ≤ 1536) (hi : 0 ≤ i ∧ i < (L : Int)) (hdg : decode cc pc = .ok (.iaload, 1)) (kk : z_V p l e R s m args below meth c D A nL cells slots Q ws (pc + 1) lv (.int (z_I (lw_x xs i)) :: st)) : z_V p l e R s m args below meth c D A nL cells slots Q ws pc lv (.int (z_I i) :: .ref b :: st) := by
  intro H locs ls hP hD hS h
  have e1 : (z_I i).toNatClampNeg = i.toNat := by
    show (z_I i).toInt.toNat = i.toNat
    rw [z_I_toInt (by omega)]
  refine va_sld C.1 C.2.1 hX hbl hbA hS (z_in hi.1 hi.2 (by omega)) hdg ?_
  rw [e1, show xs i.toNat = z_I (lw_x xs i) from (z_I_of _).symm]
  exact kk H locs ls hP hD hS h
theorem z_slen (C : z_C p s m args meth c D tys A cc nL own Ts ret) {b L : Nat} {xs : Nat → Int32} (hX : va_X b L xs s s.heap) (hbl : b < s.heap.size) (hbA : ¬ A b) (hdg : decode cc pc = .ok (.arraylength, 1)) (kk : z_V p l e R s m args below meth c D A nL cells slots Q ws (pc + 1) lv (.int (z_I (L : Int)) :: st)) : z_V p l e R s m args below meth c D A nL cells slots Q ws pc lv (.ref b :: st) := by
  intro H locs ls hP hD hS h
  refine va_slen C.1 C.2.1 hX hbl hbA hS hdg ?_
  rw [show (Int32.ofNat L) = z_I (L : Int) from (Int32.ofInt_eq_ofNat (n := L)).symm]
  exact kk H locs ls hP hD hS h
theorem z_ieqT (C : z_C p s m args meth c D tys A cc nL own Ts ret) {x y : Int} (h : y = x) (tgt : Nat) {off : Int} (hdg : decode cc pc = .ok (.if_icmp .eq off, 3)) (ht : (pc : Int) + off = (tgt : Int)) (kk : z_V p l e R s m args below meth c D A nL cells slots Q ws tgt lv st) : z_V p l e R s m args below meth c D A nL cells slots Q ws pc lv (.int (z_I y) :: .int (z_I x) :: st) := by
  subst h
  exact fun H locs ls hP hD hS h => lv_icmp_eq C.1 C.2.1 hdg ht (fun _ => kk H locs ls hP hD hS h) (fun q => absurd rfl q)
theorem lw_and31 (x : Int) : z_I x &&& z_I 31 = z_I (x % 32) := by
  apply Int32.toBitVec.inj
  rw [Int32.toBitVec_and]
  apply BitVec.eq_of_toNat_eq
  rw [BitVec.toNat_and]
  have h1 : ∀ y : Int, (z_I y).toBitVec.toNat = (y % 4294967296).toNat := fun y => by
    show (BitVec.ofInt 32 y).toNat = _
    rw [BitVec.toNat_ofInt]
    rfl
  rw [h1, h1, h1]
  rw [show ((31 : Int) % 4294967296).toNat = 2 ^ 5 - 1 by decide, Nat.and_two_pow_sub_one_eq_mod]
  omega
/-- a long, as the number of its bits -/
def lw_un (v : Int64) : Int := (v.toBitVec.toNat : Int)
theorem lw_un_L (v : Int64) : v = z_L (lw_un v) := by
  unfold lw_un
  rw [z_L_nat]
  apply Int64.toBitVec.inj
  rw [Int64.toBitVec_ofNat']
  apply BitVec.eq_of_toNat_eq
  rw [BitVec.toNat_ofNat, Nat.mod_eq_of_lt v.toBitVec.isLt]
theorem lw_un_rng (v : Int64) : 0 ≤ lw_un v ∧ lw_un v < 18446744073709551616 := by
  have := v.toBitVec.isLt
  unfold lw_un
  omega
/-- the characters that a call of put gets out of two ints -/
def lw_k (a b : Int) : Int := lw_un (z_L (lw_un (z_L (lw_un (z_I a).toInt64) <<< ((z_I 32).toInt64 &&& 63))) ||| z_L (lw_un (z_L (lw_un (z_I b).toInt64) &&& z_L 4294967295)))
abbrev lw_at (BS : List va_W) (isC : List Nat) : List va_W := isC.filterMap (fun i => BS[i]?)
theorem z_callL (C : z_C p s m args meth c D tys A cc nL own Ts ret) (BS BS' : List va_W) (isC : List Nat) (As rest : List Value) {y : MethodName} {bytes : ByteArray} {maxL fr lo index n : Nat} {ret' : Option FieldType} {wsy wsy' : List Cond} {wc w1 : va_W} {F : Int} {b ci N : Nat} {T : u_T} {fs : List Value} (hM : z_Mi l y wsy fr lo D tys (.ref b :: As) wc w1 F) (hG : GoodIn Ts (wsV own index y.cls y wsy)) (hw : wsy = Cond.code y bytes maxL ret' :: wsy') (hwc : (lw_at BS isC).flatten = wc) (hw1 : (lw_at BS' isC).flatten = w1) (hd : y.cls ≠ "java/lang/invoke/MethodHandle" ∧ y.cls ≠ "java/lang/invoke/VarHandle" ∧ (parseMethodDescriptor y.desc).map (fun d => d.parameters.length) = some n) (hn : As.length = n) (hR : fr + 1 ≤ R.frames ∧ 8 + (maxL + 11) + lo ≤ R.locals) (hrecv : wc[0]? = some (b, .inr (ci, fs))) (hcl : vwCl[ci]? = some (y.cls, T, N)) (hK : isC.map (fun i => BS[i]?) = (lw_at BS isC).map some ∧ (lw_at BS isC).map z_ad = (lw_at BS' isC).map z_ad ∧ z_repB BS isC (lw_at BS' isC) = BS') (hnd : va_nd isC = true) (hst : st = As.reverse ++ .ref b :: rest) (hrest : (rest.map fun v => v.category).sum ≤ 8) (hcs : cells ≤ R.cells ∧ slots ≤ R.slots) (hdg : decode cc pc = .ok (.invokevirtual index, 3)) (kk : z_V p l e R s m args below meth c D A nL cells slots Q BS'.flatten (pc + 3) lv (.int (z_I F) :: rest)) : z_V p l e R s m args below meth c D A nL cells slots Q BS.flatten pc lv st :=
  z_callBVi C BS isC (lw_at BS isC) (lw_at BS' isC) BS'.flatten As rest hM hG hw hwc hw1 hd hn hR hrecv hcl rfl hK.1 hnd hK.2.1 (by rw [hK.2.2]) hst hrest hcs hdg kk
theorem z_callLE {S : Type} (C : z_C p s m args meth c D tys A cc nL own Ts ret) (BS : List va_W) (BS' : S → List va_W) (isC : List Nat) (As rest : List Value) {y : MethodName} {bytes : ByteArray} {maxL fr lo index n : Nat} {ret' : Option FieldType} {wsy wsy' : List Cond} {wc : va_W} {w1 : S → va_W} {post : Int → S → Prop} {b ci N : Nat} {T : u_T} {fs : List Value} (hM : z_Ei S l y wsy fr lo D tys (.ref b :: As) wc w1 post) (hG : GoodIn Ts (wsV own index y.cls y wsy)) (hw : wsy = Cond.code y bytes maxL ret' :: wsy') (hwc : (lw_at BS isC).flatten = wc) (hw1 : ∀ u, (lw_at (BS' u) isC).flatten = w1 u) (hd : y.cls ≠ "java/lang/invoke/MethodHandle" ∧ y.cls ≠ "java/lang/invoke/VarHandle" ∧ (parseMethodDescriptor y.desc).map (fun d => d.parameters.length) = some n) (hn : As.length = n) (hR : fr + 1 ≤ R.frames ∧ 8 + (maxL + 11) + lo ≤ R.locals) (hrecv : wc[0]? = some (b, .inr (ci, fs))) (hcl : vwCl[ci]? = some (y.cls, T, N)) (hK : ∀ u, isC.map (fun i => BS[i]?) = (lw_at BS isC).map some ∧ (lw_at BS isC).map z_ad = (lw_at (BS' u) isC).map z_ad ∧ z_repB BS isC (lw_at (BS' u) isC) = BS' u) (hC : isC.map (fun i => BS[i]?) = (lw_at BS isC).map some) (hnd : va_nd isC = true) (hst : st = As.reverse ++ .ref b :: rest) (hrest : (rest.map fun v => v.category).sum ≤ 8) (hcs : cells ≤ R.cells ∧ slots ≤ R.slots) (hdg : decode cc pc = .ok (.invokevirtual index, 3)) (kk : ∀ (u : S) (i : Int), post i u → z_V p l e R s m args below meth c D A nL cells slots Q (BS' u).flatten (pc + 3) lv (.int (z_I i) :: rest)) : z_V p l e R s m args below meth c D A nL cells slots Q BS.flatten pc lv st := by
  intro H locs ls hP hD hS h
  subst hwc
  have hPc : va_P D vwCl (lw_at BS isC).flatten H := z_subB hP hC
  have hDc := z_subDB hD hC hnd
  have hFc := z_freeB C hD hS hC
  refine va_calli (va_runV (rest := rest) ⟨C.1, C.2.1, C.2.2.1, C.2.2.2.1, C.2.2.2.2.1⟩ (hM H.size) (cwV n C.2.2.2.2.1 hG hw rfl rfl ⟨rfl, hd⟩ hR) ⟨z_blind, va_recv C.2.2.2.2.2.1 hPc hcl hrecv, fun U hU hW => ⟨rfl, by rw [hU], by rw [hU]; exact hPc, va_K.moved hW.alike C.2.2.2.2.2.1, hDc.weaken (fun _ _ _ _ => trivial)⟩⟩ rfl hn h.1 hst (lv_room hrest) hdg hcs) hS (fun q _ h => hFc q h) hFc (fun r u t H1 locs1 ht hvm hr hB hz1 hk1 hS1 => ?_)
  obtain ⟨i, rfl, hpo⟩ := hr
  obtain ⟨hP1, hK1, hD1⟩ := hB
  rw [ht, ← hw1 u] at hP1
  obtain ⟨hP2, hD2⟩ := z_frameB hP hD isC hC (hK u).2.1 hk1 hP1
  rw [(hK u).2.2] at hP2 hD2
  exact kk u i hpo H1 locs1 ls hP2 hD2 hS1 h
end ZLA
/-! ===== the law's world: the object of the class, the object of the reference; addresses by their places ===== -/
abbrev lw_o (g : Nat → Nat) (i : Nat) (ct : z_Ct) : va_W := [(g i, .inr (0, [.ref (g (i + 1)), .ref (g (i + 5)), .ref (g (i + 10)), .int (z_I ct.2.2.2.1), .int (z_I ct.2.2.2.2.1), .int (z_I ct.2.2.2.2.2.1), .int (z_I ct.2.2.2.2.2.2.1), .int (z_I ct.2.2.2.2.2.2.2)]))]
abbrev lw_v (cI : ClassId) (g : Nat → Nat) (i : Nat) (w : z_Wv) : va_W := [(g i, .inr (5, [.int (z_I w.1), .int (z_I w.2.1), .int (z_I w.2.2.1), .int (z_I w.2.2.2.1), .ref (g (i + 1)), .ref (g (i + 2)), .ref (g (i + 3))])), (g (i + 1), z_ai cI 5 w.2.2.2.2.1), (g (i + 2), z_ai cI 5 w.2.2.2.2.2.1), (g (i + 3), z_ai cI 105 w.2.2.2.2.2.2)]
abbrev lw_r (cI cZ : ClassId) (g : Nat → Nat) (i : Nat) (rd : z_Rd) : va_W := [(g i, .inr (3, [.int (z_I rd.1), .ref (g (i + 1)), .ref (g (i + 2)), .ref (g (i + 3)), .ref (g (i + 4))])), (g (i + 1), z_ai cI 99 rd.2.1), (g (i + 2), z_ai cI 99 rd.2.2.1), (g (i + 3), z_ai cI 99 rd.2.2.2.1), (g (i + 4), z_ai cI 99 rd.2.2.2.2)]
abbrev lw_s (cI : ClassId) (g : Nat → Nat) (i : Nat) (sg : z_Sg) : va_W := [(g i, .inr (4, [.int (z_I sg.1), .ref (g (i + 1)), .ref (g (i + 2)), .ref (g (i + 3)), .ref (g (i + 4))])), (g (i + 1), z_ai cI 32 sg.2.1), (g (i + 2), z_ai cI 32 sg.2.2.1), (g (i + 3), z_ai cI 32 sg.2.2.2.1), (g (i + 4), z_ai cI 32 sg.2.2.2.2)]
abbrev lw_c (cI cZ : ClassId) (g : Nat → Nat) (i : Nat) (ct : z_Ct) : va_W := z_ctc cI cZ (g i) (g (i + 1)) (g (i + 2)) (g (i + 3)) (g (i + 4)) (g (i + 5)) (g (i + 6)) (g (i + 7)) (g (i + 8)) (g (i + 9)) (g (i + 10)) (g (i + 11)) (g (i + 12)) (g (i + 13)) (g (i + 14)) ct
def lw_W (cI cZ cO : ClassId) (g : Nat → Nat) (ct : z_Ct) (kp od : Int) (hr : Int → z_Ct) (sl : Int → z_Ct) (us : Int → Int) (tr : z_Wv) (pl : Int) (sg : Int → Int) (kn ln : Int) (f pf slf svf pd : Int → Int) : List va_W :=
  [[(g 0, .inr (6, [.ref (g 1), .ref (g 16), .ref (g 123), .ref (g 124), .ref (g 125), .ref (g 129)]))],
   lw_o g 1 ct, lw_v cI g 2 ct.1, lw_r cI cZ g 6 ct.2.1, lw_s cI g 11 ct.2.2.1,
   [(g 16, .inr (1, [.int (z_I kp), .int (z_I od), .ref (g 17)]))],
   [(g 17, .inl (cO, 7, .inr (.inr (.inr (.inr (z_rw [g 18, g 33, g 48, g 63, g 78, g 93, g 108]))))))],
   lw_c cI cZ g 18 (hr 0), lw_c cI cZ g 33 (hr 1), lw_c cI cZ g 48 (hr 2), lw_c cI cZ g 63 (hr 3), lw_c cI cZ g 78 (hr 4), lw_c cI cZ g 93 (hr 5), lw_c cI cZ g 108 (hr 6),
   [(g 123, .inl (cO, 2, .inr (.inr (.inr (.inr (z_rw [g 131, g 146]))))))],
   [(g 124, z_ai cZ 2 us)],
   lw_v cI g 125 tr,
   [(g 129, .inr (2, [.int (z_I pl), .ref (g 130)])), (g 130, z_ai cI 80 sg)],
   lw_c cI cZ g 131 (sl 0), lw_c cI cZ g 146 (sl 1),
   [(g 161, .inr (7, [.ref (g 162), .ref (g 163), .int (z_I kn), .ref (g 164), .ref (g 165), .ref (g 166), .int (z_I ln)]))],
   [(g 162, z_ai cI 712 f)], [(g 163, z_ai cI 2136 pf)], [(g 164, z_ai cI 712 slf)], [(g 165, z_ai cZ 2 svf)], [(g 166, z_ai cI 80 pd)]]
/-- what holds at the head of the law's loop -/
def lw_inv (ct : z_Ct) (kp od : Int) (hr : Int → z_Ct) (sl : Int → z_Ct) (us : Int → Int) (pl : Int) (sg : Int → Int) (kn : Int) (f pf slf svf pd : Int → Int) : Prop :=
  (z_ok ct ∧ ct.1.1 ≤ 9999) ∧ (0 ≤ kp ∧ kp ≤ 6) ∧ (0 ≤ od ∧ od < 7) ∧ (∀ j : Int, 0 ≤ j → j < 7 → z_ok (hr j) ∧ (hr j).1.1 ≤ 9999) ∧ (∀ j : Int, 0 ≤ j → j < 2 → z_ok (sl j) ∧ (sl j).1.1 ≤ 9999) ∧ (0 ≤ pl ∧ pl ≤ 80) ∧ (∀ i : Int, 0 ≤ i → i < pl → 0 ≤ sg i ∧ sg i < 256) ∧ z_rel ct 0 f ∧ z_mh kp od hr kn pf ∧ z_mv sl us slf svf ∧ z_pr pl sg pd
theorem lw_stK {r kp : Int} (h : 0 ≤ kp ∧ kp ≤ 6) : 0 ≤ z_stK r kp ∧ z_stK r kp ≤ 6 := by
  unfold z_stK
  split
  · omega
  · split <;> omega
theorem lw_stO {r kp od : Int} (h : 0 ≤ od ∧ od < 7) : 0 ≤ z_stO r kp od ∧ z_stO r kp od < 7 := by
  unfold z_stO
  split
  · omega
  · split <;> omega
theorem lw_uc {hr : Int → z_Ct} {n : Int} (h : ∀ j : Int, 0 ≤ j → j < n → z_ok (hr j) ∧ (hr j).1.1 ≤ 9999) {ct : z_Ct} (hc : z_ok ct ∧ ct.1.1 ≤ 9999) (q : Int) : ∀ j : Int, 0 ≤ j → j < n → z_ok (z_uc hr q ct j) ∧ (z_uc hr q ct j).1.1 ≤ 9999 := fun j h1 h2 => by
  unfold z_uc
  by_cases hj : j = q
  · rw [if_pos hj]; exact hc
  · rw [if_neg hj]; exact h j h1 h2
theorem lw_la {ct : z_Ct} (h : z_ok ct) : (∀ i : Int, 0 ≤ i → i < 99 → ct.2.1.2.2.2.2 i = 0 ∨ ct.2.1.2.2.2.2 i = 1) ∧ (ct.2.2.2.2.2.2.2 = 0 ∨ ct.2.2.2.2.2.2.2 = 1) := ⟨h.2.1.2.2, h.2.2.2.2.2.2.2.1⟩
theorem lw_ck {ct : z_Ct} (h : z_ok ct) : -1000 ≤ ct.2.2.2.2.1 ∧ ct.2.2.2.2.1 < 1000 := by
  have h1 := h.2.2.2.2.1
  have h2 := h.1.2.1
  have h3 := z_p2_le (k := ct.1.2.1) (by omega)
  omega
theorem lw_ap {pl : Int} {sg : Int → Int} (u : Int) (hpl : 0 ≤ pl ∧ pl ≤ 80) (hsg : ∀ i : Int, 0 ≤ i → i < pl → 0 ≤ sg i ∧ sg i < 256) : (0 ≤ (z_ap pl sg u).2.1 ∧ (z_ap pl sg u).2.1 ≤ 80) ∧ ∀ i : Int, 0 ≤ i → i < (z_ap pl sg u).2.1 → 0 ≤ (z_ap pl sg u).2.2 i ∧ (z_ap pl sg u).2.2 i < 256 := by
  have hc := z_ch_rng 8 u 0 (by omega)
  unfold z_ap
  by_cases h1 : z_ch u 0 8 < 0
  · rw [if_pos h1]; exact ⟨hpl, hsg⟩
  · rw [if_neg h1]
    by_cases h2 : 80 < pl + z_ch u 0 8
    · rw [if_pos h2]; exact ⟨hpl, hsg⟩
    · rw [if_neg h2]
      refine ⟨⟨by dsimp only; omega, by dsimp only; omega⟩, fun i i1 i2 => ?_⟩
      dsimp only at i2 ⊢
      unfold z_apf
      by_cases h3 : pl ≤ i ∧ i < pl + z_ch u 0 8
      · rw [if_pos h3]; omega
      · rw [if_neg h3]; exact hsg i i1 (by omega)
