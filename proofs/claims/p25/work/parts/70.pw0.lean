/-! ===== the law's world: objects of the class, addresses by their places; what of an object's state is only known by what holds of it ===== -/
abbrev p_J : Type := Int × Int × (Int → z_Ct) × z_Wv
abbrev lw_at (BS : List va_W) (isC : List Nat) : List va_W := isC.filterMap (fun i => BS[i]?)
abbrev lw_o (g : Nat → Nat) (i : Nat) (ct : z_Ct) : va_W := [(g i, .inr (0, [.ref (g (i + 1)), .ref (g (i + 5)), .ref (g (i + 10)), .int (z_I ct.2.2.2.1), .int (z_I ct.2.2.2.2.1), .int (z_I ct.2.2.2.2.2.1), .int (z_I ct.2.2.2.2.2.2.1), .int (z_I ct.2.2.2.2.2.2.2)]))]
abbrev lw_v (cI : ClassId) (g : Nat → Nat) (i : Nat) (w : z_Wv) : va_W := [(g i, .inr (5, [.int (z_I w.1), .int (z_I w.2.1), .int (z_I w.2.2.1), .int (z_I w.2.2.2.1), .ref (g (i + 1)), .ref (g (i + 2)), .ref (g (i + 3))])), (g (i + 1), z_ai cI 5 w.2.2.2.2.1), (g (i + 2), z_ai cI 5 w.2.2.2.2.2.1), (g (i + 3), z_ai cI 105 w.2.2.2.2.2.2)]
abbrev lw_r (cI : ClassId) (g : Nat → Nat) (i : Nat) (rd : z_Rd) : va_W := [(g i, .inr (3, [.int (z_I rd.1), .ref (g (i + 1)), .ref (g (i + 2)), .ref (g (i + 3)), .ref (g (i + 4))])), (g (i + 1), z_ai cI 99 rd.2.1), (g (i + 2), z_ai cI 99 rd.2.2.1), (g (i + 3), z_ai cI 99 rd.2.2.2.1), (g (i + 4), z_ai cI 99 rd.2.2.2.2)]
abbrev lw_s (cI : ClassId) (g : Nat → Nat) (i : Nat) (sg : z_Sg) : va_W := [(g i, .inr (4, [.int (z_I sg.1), .ref (g (i + 1)), .ref (g (i + 2)), .ref (g (i + 3)), .ref (g (i + 4))])), (g (i + 1), z_ai cI 32 sg.2.1), (g (i + 2), z_ai cI 32 sg.2.2.1), (g (i + 3), z_ai cI 32 sg.2.2.2.1), (g (i + 4), z_ai cI 32 sg.2.2.2.2)]
abbrev lw_c (cI cZ : ClassId) (g : Nat → Nat) (i : Nat) (ct : z_Ct) : va_W := z_ctc cI cZ (g i) (g (i + 1)) (g (i + 2)) (g (i + 3)) (g (i + 4)) (g (i + 5)) (g (i + 6)) (g (i + 7)) (g (i + 8)) (g (i + 9)) (g (i + 10)) (g (i + 11)) (g (i + 12)) (g (i + 13)) (g (i + 14)) ct
def pw (cI cZ cO : ClassId) (g : Nat → Nat) (ct : z_Ct) (J : p_J) : List va_W :=
  [[(g 0, .inr (6, [.ref (g 1), .ref (g 16), .ref (g 123), .ref (g 124), .ref (g 125), .ref (g 129)]))],
   lw_o g 1 ct, lw_v cI g 2 ct.1, lw_r cI g 6 ct.2.1, lw_s cI g 11 ct.2.2.1,
   [(g 16, .inr (1, [.int (z_I J.1), .int (z_I J.2.1), .ref (g 17)]))],
   [(g 17, .inl (cO, 7, .inr (.inr (.inr (.inr (z_rw [g 18, g 33, g 48, g 63, g 78, g 93, g 108]))))))],
   lw_c cI cZ g 18 (J.2.2.1 0), lw_c cI cZ g 33 (J.2.2.1 1), lw_c cI cZ g 48 (J.2.2.1 2), lw_c cI cZ g 63 (J.2.2.1 3), lw_c cI cZ g 78 (J.2.2.1 4), lw_c cI cZ g 93 (J.2.2.1 5), lw_c cI cZ g 108 (J.2.2.1 6),
   [(g 123, .inl (cO, 2, .inr (.inr (.inr (.inr (z_rw [g 131, g 146]))))))],
   [(g 124, z_ai cZ 2 (fun _ => 0))],
   lw_v cI g 125 J.2.2.2,
   [(g 129, .inr (2, [.int (z_I 0), .ref (g 130)])), (g 130, z_ai cI 80 (fun _ => 0))],
   lw_c cI cZ g 131 z_ct0, lw_c cI cZ g 146 z_ct0]
def p_ok (J : p_J) : Prop := (0 ≤ J.1 ∧ J.1 ≤ 6) ∧ (0 ≤ J.2.1 ∧ J.2.1 < 7) ∧ ∀ j : Int, 0 ≤ j → j < 7 → z_ok (J.2.2.1 j) ∧ (J.2.2.1 j).1.1 ≤ 9999
theorem lw_stK {r kp : Int} (h : 0 ≤ kp ∧ kp ≤ 6) : 0 ≤ z_stK r kp ∧ z_stK r kp ≤ 6 := by
  unfold z_stK
  split
  · omega
  · split <;> omega
theorem lw_stO {r kp od : Int} (h : 0 ≤ od ∧ od < 7) : 0 ≤ z_stO r kp od ∧ z_stO r kp od < 7 := by
  unfold z_stO
  split
  · omega
  · split <;> omega
theorem lw_uc {hr : Int → z_Ct} {n : Int} (h : ∀ j : Int, 0 ≤ j → j < n → z_ok (hr j) ∧ (hr j).1.1 ≤ 9999) {ct : z_Ct} (hc : z_ok ct ∧ ct.1.1 ≤ 9999) (q : Int) : ∀ j : Int, 0 ≤ j → j < n → z_ok (z_uc hr q ct j) ∧ (z_uc hr q ct j).1.1 ≤ 9999 := fun j h1 h2 => by
  unfold z_uc
  by_cases hj : j = q
  · rw [if_pos hj]; exact hc
  · rw [if_neg hj]; exact h j h1 h2
theorem lw_la {ct : z_Ct} (h : z_ok ct) : (∀ i : Int, 0 ≤ i → i < 99 → ct.2.1.2.2.2.2 i = 0 ∨ ct.2.1.2.2.2.2 i = 1) ∧ (ct.2.2.2.2.2.2.2 = 0 ∨ ct.2.2.2.2.2.2.2 = 1) := ⟨h.2.1.2.2, h.2.2.2.2.2.2.2.1⟩
/-- behind a change -/
def p_st (J : p_J) (ct : z_Ct) (r : Int) : p_J := (z_stK r J.1, z_stO r J.1 J.2.1, z_uc J.2.2.1 ((J.2.1 + J.1) % 7) ct, J.2.2.2)
theorem p_st_ok {J : p_J} (h : p_ok J) {ct : z_Ct} (hok : z_ok ct) (ht : ct.1.1 ≤ 9999) (r : Int) : p_ok (p_st J ct r) := ⟨lw_stK h.1, lw_stO h.2.1, lw_uc h.2.2 ⟨hok, ht⟩ _⟩
/-- only what if has run -/
def p_tr (J : p_J) (w : z_Wv) : p_J := (J.1, J.2.1, J.2.2.1, w)
theorem p_tr_ok {J : p_J} (h : p_ok J) (w : z_Wv) : p_ok (p_tr J w) := h
/-! ===== a world in another order ===== -/
theorem z_D_iff {A : Nat → Prop} {ws : va_W} : va_D A ws ↔ (ws.map (·.1)).Pairwise (· ≠ ·) ∧ ∀ q ∈ ws, A q.1 := by
  constructor
  · intro h
    refine ⟨z_D_nodup h, fun q hq => ?_⟩
    obtain ⟨k, hk⟩ := List.getElem?_of_mem hq
    exact h.2 k q hk
  · rintro ⟨h1, h2⟩
    refine ⟨fun i j p q hi hj hpq => ?_, fun k q hk => h2 q (List.mem_of_getElem? hk)⟩
    rw [List.pairwise_iff_getElem] at h1
    obtain ⟨li, ei⟩ := List.getElem?_eq_some_iff.mp hi
    obtain ⟨lj, ej⟩ := List.getElem?_eq_some_iff.mp hj
    rcases Nat.lt_trichotomy i j with c | c | c
    · exfalso
      refine h1 i j (by rw [List.length_map]; exact li) (by rw [List.length_map]; exact lj) c ?_
      rw [List.getElem_map, List.getElem_map, ei, ej]
      exact hpq
    · exact c
    · exfalso
      refine h1 j i (by rw [List.length_map]; exact lj) (by rw [List.length_map]; exact li) c ?_
      rw [List.getElem_map, List.getElem_map, ei, ej]
      exact hpq.symm
theorem z_swD {A : Nat → Prop} {X Y : List va_W} (h : va_D A (X ++ Y).flatten) : va_D A (Y ++ X).flatten := by
  rw [List.flatten_append] at h ⊢
  rw [z_D_iff] at h ⊢
  refine ⟨?_, fun q hq => h.2 q (List.mem_append.mpr ((List.mem_append.mp hq).symm))⟩
  have h1 := h.1
  rw [List.map_append, List.pairwise_append] at h1 ⊢
  exact ⟨h1.2.1, h1.1, fun a ha b hb e => h1.2.2 b hb a ha e.symm⟩
section ZLA
variable {p : Program} {l : Launch} {e : Env} {R : Room} {s : State} {m : MethodId} {args : Array Value} {below : List Frame} {meth : Method} {c : Code} {D : va_G} {tys : List (ClassId × FieldType)} {A : Nat → Prop} {cc : ByteArray} {nL cells slots : Nat} {own : String} {Ts : List Cond} {ret : Option FieldType} {Q : State → Prop} {ws : va_W} {pc : Nat} {lv : List (Nat × Value)} {st : List Value}
theorem z_sw {X Y : List va_W} (kk : z_V p l e R s m args below meth c D A nL cells slots Q (Y ++ X).flatten pc lv st) : z_V p l e R s m args below meth c D A nL cells slots Q (X ++ Y).flatten pc lv st := by
  intro H locs ls hP hD hS h
  refine kk H locs ls ?_ (z_swD hD) hS h
  rw [z_P_mem] at hP ⊢
  intro q hq
  refine hP q ?_
  rw [List.flatten_append] at hq ⊢
  exact List.mem_append.mpr ((List.mem_append.mp hq).symm)
/-- an object is left behind -/
theorem z_dropW {X Y : List va_W} (kk : z_V p l e R s m args below meth c D A nL cells slots Q (X ++ []).flatten pc lv st) : z_V p l e R s m args below meth c D A nL cells slots Q (X ++ Y).flatten pc lv st := by
  intro H locs ls hP hD hS h
  rw [List.flatten_append] at hP hD
  rw [z_D_iff, List.map_append, List.pairwise_append] at hD
  refine kk H locs ls ?_ ?_ hS h
  · rw [List.append_nil]
    rw [z_P_mem] at hP ⊢
    exact fun q hq => hP q (List.mem_append_left _ hq)
  · rw [List.append_nil, z_D_iff]
    exact ⟨hD.1.1, fun q hq => hD.2 q (List.mem_append_left _ hq)⟩
/-- more cells and slots than were made -/
theorem z_wid {cells' slots' : Nat} (h1 : cells ≤ cells') (h2 : slots ≤ slots') (kk : z_V p l e R s m args below meth c D A nL cells' slots' Q ws pc lv st) : z_V p l e R s m args below meth c D A nL cells slots Q ws pc lv st :=
  fun H locs ls hP hD hS h => W.widen h1 h2 (kk H locs ls hP hD hS h)
theorem z_ineg (C : z_C p s m args meth c D tys A cc nL own Ts ret) {x : Int} (hdg : decode cc pc = .ok (.ineg, 1)) (kk : z_V p l e R s m args below meth c D A nL cells slots Q ws (pc + 1) lv (.int (z_I (- x)) :: st)) : z_V p l e R s m args below meth c D A nL cells slots Q ws pc lv (.int (z_I x) :: st) :=
  fun H locs ls hP hD hS h => lv_ineg C.1 C.2.1 hdg (by rw [z_I_neg]; exact kk H locs ls hP hD hS h)
theorem z_ldc (C : z_C p s m args meth c D tys A cc nL own Ts ret) (v : Int) {idx : Nat} (hlink : Cond.constant own idx (z_I v) ∈ Ts) (hdg : decode cc pc = .ok (.ldc idx, 2)) (kk : z_V p l e R s m args below meth c D A nL cells slots Q ws (pc + 2) lv (.int (z_I v) :: st)) : z_V p l e R s m args below meth c D A nL cells slots Q ws pc lv st :=
  fun H locs ls hP hD hS h => lv_ldc C.1 C.2.1 C.2.2.2.1 (C.2.2.2.2.1 _ hlink) hdg (kk H locs ls hP hD hS h)
theorem z_callL (C : z_C p s m args meth c D tys A cc nL own Ts ret) (BS BS' : List va_W) (isC : List Nat) (As rest : List Value) {y : MethodName} {bytes : ByteArray} {maxL fr lo index n : Nat} {ret' : Option FieldType} {wsy wsy' : List Cond} {wc w1 : va_W} {F : Int} {b ci N : Nat} {T : u_T} {fs : List Value} (hM : z_Mi l y wsy fr lo D tys (.ref b :: As) wc w1 F) (hG : GoodIn Ts (wsV own index y.cls y wsy)) (hw : wsy = Cond.code y bytes maxL ret' :: wsy') (hwc : (lw_at BS isC).flatten = wc) (hw1 : (lw_at BS' isC).flatten = w1) (hd : y.cls ≠ "java/lang/invoke/MethodHandle" ∧ y.cls ≠ "java/lang/invoke/VarHandle" ∧ (parseMethodDescriptor y.desc).map (fun d => d.parameters.length) = some n) (hn : As.length = n) (hR : fr + 1 ≤ R.frames ∧ 8 + (maxL + 11) + lo ≤ R.locals) (hrecv : wc[0]? = some (b, .inr (ci, fs))) (hcl : vwCl[ci]? = some (y.cls, T, N)) (hK : isC.map (fun i => BS[i]?) = (lw_at BS isC).map some ∧ (lw_at BS isC).map z_ad = (lw_at BS' isC).map z_ad ∧ z_repB BS isC (lw_at BS' isC) = BS') (hnd : va_nd isC = true) (hst : st = As.reverse ++ .ref b :: rest) (hrest : (rest.map fun v => v.category).sum ≤ 8) (hcs : cells ≤ R.cells ∧ slots ≤ R.slots) (hdg : decode cc pc = .ok (.invokevirtual index, 3)) (kk : z_V p l e R s m args below meth c D A nL cells slots Q BS'.flatten (pc + 3) lv (.int (z_I F) :: rest)) : z_V p l e R s m args below meth c D A nL cells slots Q BS.flatten pc lv st :=
  z_callBVi C BS isC (lw_at BS isC) (lw_at BS' isC) BS'.flatten As rest hM hG hw hwc hw1 hd hn hR hrecv hcl rfl hK.1 hnd hK.2.1 (by rw [hK.2.2]) hst hrest hcs hdg kk
end ZLA
theorem z_ok_ct0 : z_ok z_ct0 := by
  refine ⟨⟨by decide, ⟨by decide, by decide⟩, ⟨by decide, by decide⟩, fun i _ _ => ⟨by show (1 : Int) ≤ 3; decide, by show (3 : Int) ≤ 20; decide⟩, fun i _ _ => by show (0 : Int) ≤ 0; decide, fun i _ _ => by show (0 : Int) ≤ 0; decide, by decide +kernel, fun k _ _ => ?_, fun k _ _ => ?_, fun k i _ _ _ _ => rfl, by decide +kernel⟩, ⟨⟨by decide, by decide⟩, fun i i1 i2 => absurd (show i < 0 from i2) (by omega), fun i _ _ => Or.inl rfl⟩, ⟨⟨by decide, by decide⟩, fun i i1 i2 => absurd (show i < 0 from i2) (by omega), fun v _ _ => ⟨⟨by show (0 : Int) ≤ 0; decide, by show (0 : Int) ≤ 0; decide⟩, by show (0 : Int) ≤ 0; decide, by show (0 : Int) ≤ 0; decide⟩, by decide +kernel, fun i j i1 i2 i3 => absurd (show j < 0 from i3) (by omega), fun v _ _ hv => absurd (show (0 : Int) < 0 from hv) (by decide)⟩, ⟨by decide, by decide⟩, ⟨by decide, by decide⟩, ⟨by decide, by decide⟩, ⟨by decide, by decide⟩, Or.inl rfl, by decide⟩
  · show (0 : Int) + z_S (fun _ => 0) ((k + 1) * 21) 21 = 0 / 2
    rw [z_S_zero 21 (fun i _ _ => rfl)]
    decide
  · show z_bit 0 k = 0 % 2
    rw [z_bit0]
    decide
/-! ===== static calls over a whole world; a contract that makes cells; the script in a callee ===== -/
/-- a contract of a method that makes mc cells of ms slots, and answers -/
def z_Et (S : Type) (l : Launch) (y : MethodName) (wsy : List Cond) (fr lo mc ms : Nat) (D : va_G) (tys : List (ClassId × FieldType)) (As : List Value) (wc : va_W) (w1 : S → va_W) (post : Int → S → Prop) : Prop :=
  ∀ sz : Nat, Met l y wsy { frames := fr, cells := mc, slots := ms, locals := lo } (va_Pc As (z_NPRE D tys wc sz)) (va_Qi (S := S) (fun r u => ∃ i : Int, r = z_I i ∧ post i u) (fun u => z_B D tys (va_A wc sz) (w1 u)) (va_A wc sz)) mc ms (va_A wc sz)
def z_QT (S : Type) (D : va_G) (tys : List (ClassId × FieldType)) (A : Nat → Prop) (args : Array Value) (s : State) (below : List Frame) (mc ms : Nat) (w1 : S → va_W) (post : Int → S → Prop) : State → Prop := MQ below (va_Qi (S := S) (fun r u => ∃ i : Int, r = z_I i ∧ post i u) (fun u => z_B D tys A (w1 u)) A) args s mc ms A
theorem z_Et_of {S : Type} {l : Launch} {y : MethodName} {wsy wsy' : List Cond} {cc : ByteArray} {nL fr lo mc ms : Nat} {ret : Option FieldType} {D : va_G} {tys : List (ClassId × FieldType)} {As : List Value} {wc : va_W} {w1 : S → va_W} {post : Int → S → Prop} (hy : plainName y.cls = true) (hw : wsy = Cond.code y cc nL ret :: wsy') (hnL : (lg_sl As).length ≤ nL)
    (body : ∀ (p : Program) (e : Env) (s : State) (m : MethodId) (args : Array Value) (below : List Frame) (meth : Method) (c : Code) (A : Nat → Prop) (Q : State → Prop), z_C p s m args meth c D tys A cc nL y.cls wsy ret → z_NW s → Q = z_QT S D tys A args s below mc ms w1 post → z_V p l e { frames := fr, cells := mc, slots := ms, locals := lo } s m args below meth c D A nL 0 0 Q wc 0 (lv_args 0 As) []) : z_Et S l y wsy fr lo mc ms D tys As wc w1 post := by
  intro sz
  refine Met.ofW hy hw ?_
  intro p e s m args below meth c s₁ B hml hv
  obtain ⟨rfl, hsz, hP, hK, hD0, hN⟩ := hv
  subst hsz
  have hts := atoms_spec (ws := wsy) B.pre
  have hl := lv_entry As (n := nL) hnL
  rw [lg_entry_eq]
  exact body p e s m _ below meth c (va_A wc s.heap.size) _ ⟨B.exec, B.bytes, hml, findClass_of_methodNamed B.named, hts, hK, B.returns, B.notSynchronized, fun q h => Or.inr h⟩ hN rfl s.heap [] _ hP hD0.self va_S.rf hl
/-- a contract of a method that reads the script, and touches no cell -/
def z_Mx (l : Launch) (y : MethodName) (wsy : List Cond) (fr lo : Nat) (D : va_G) (tys : List (ClassId × FieldType)) (b L : Nat) (xs : Nat → Int32) (As : List Value) (F : Int) : Prop :=
  ∀ sz : Nat, Met l y wsy { frames := fr, cells := 0, slots := 0, locals := lo } (va_Pc As (fun U => z_PRE D tys [] sz U ∧ va_X b L xs U U.heap ∧ b < sz)) (va_Qi (S := Unit) (fun r _ => r = z_I F) (fun _ => z_B D tys (va_A [] sz) []) (va_A [] sz)) 0 0 (va_A [] sz)
theorem z_Mx_of {l : Launch} {y : MethodName} {wsy wsy' : List Cond} {cc : ByteArray} {nL fr lo : Nat} {ret : Option FieldType} {D : va_G} {tys : List (ClassId × FieldType)} {b L : Nat} {xs : Nat → Int32} {As : List Value} {F : Int} (hy : plainName y.cls = true) (hw : wsy = Cond.code y cc nL ret :: wsy') (hnL : (lg_sl As).length ≤ nL)
    (body : ∀ (p : Program) (e : Env) (s : State) (m : MethodId) (args : Array Value) (below : List Frame) (meth : Method) (c : Code) (A : Nat → Prop) (Q : State → Prop), z_C p s m args meth c D tys A cc nL y.cls wsy ret → va_X b L xs s s.heap → b < s.heap.size → ¬ A b → Q = z_Qi D tys A args s below [] F → z_V p l e { frames := fr, cells := 0, slots := 0, locals := lo } s m args below meth c D A nL 0 0 Q [] 0 (lv_args 0 As) []) : z_Mx l y wsy fr lo D tys b L xs As F := by
  intro sz
  refine Met.ofW hy hw ?_
  intro p e s m args below meth c s₁ B hml hv
  obtain ⟨rfl, ⟨hsz, hP, hK, hD0⟩, hX, hb⟩ := hv
  subst hsz
  have hts := atoms_spec (ws := wsy) B.pre
  have hl := lv_entry As (n := nL) hnL
  rw [lg_entry_eq]
  refine body p e s m _ below meth c (va_A [] s.heap.size) _ ⟨B.exec, B.bytes, hml, findClass_of_methodNamed B.named, hts, hK, B.returns, B.notSynchronized, fun q h => Or.inr h⟩ hX hb (fun hA => ?_) rfl s.heap [] _ hP hD0.self va_S.rf hl
  rcases hA with ⟨k, e0, hk⟩ | hA
  · simp at hk
  · omega
/-- a script's int, as a number -/
def lw_x (xs : Nat → Int32) (i : Int) : Int := (xs i.toNat).toInt
theorem lw_x_rng (xs : Nat → Int32) (i : Int) : -2147483648 ≤ lw_x xs i ∧ lw_x xs i < 2147483648 := z_rng _
section ZLC
variable {p : Program} {l : Launch} {e : Env} {R : Room} {s : State} {m : MethodId} {args : Array Value} {below : List Frame} {meth : Method} {c : Code} {D : va_G} {tys : List (ClassId × FieldType)} {A : Nat → Prop} {cc : ByteArray} {nL cells slots : Nat} {own : String} {Ts : List Cond} {ret : Option FieldType} {Q : State → Prop} {ws : va_W} {pc : Nat} {lv : List (Nat × Value)} {st : List Value}
theorem z_sld (C : z_C p s m args meth c D tys A cc nL own Ts ret) {b L : Nat} {xs : Nat → Int32} {i : Int} (hX : va_X b L xs s s.heap) (hbl : b < s.heap.size) (hbA : ¬ A b) (hL : L ≤ 1536) (hi : 0 ≤ i ∧ i < (L : Int)) (hdg : decode cc pc = .ok (.iaload, 1)) (kk : z_V p l e R s m args below meth c D A nL cells slots Q ws (pc + 1) lv (.int (z_I (lw_x xs i)) :: st)) : z_V p l e R s m args below meth c D A nL cells slots Q ws pc lv (.int (z_I i) :: .ref b :: st) := by
  intro H locs ls hP hD hS h
  have e1 : (z_I i).toNatClampNeg = i.toNat := by
    show (z_I i).toInt.toNat = i.toNat
    rw [z_I_toInt (by omega)]
  refine va_sld C.1 C.2.1 hX hbl hbA hS (z_in hi.1 hi.2 (by omega)) hdg ?_
  rw [e1, show xs i.toNat = z_I (lw_x xs i) from (z_I_of _).symm]
  exact kk H locs ls hP hD hS h
theorem z_slen (C : z_C p s m args meth c D tys A cc nL own Ts ret) {b L : Nat} {xs : Nat → Int32} (hX : va_X b L xs s s.heap) (hbl : b < s.heap.size) (hbA : ¬ A b) (hdg : decode cc pc = .ok (.arraylength, 1)) (kk : z_V p l e R s m args below meth c D A nL cells slots Q ws (pc + 1) lv (.int (z_I (L : Int)) :: st)) : z_V p l e R s m args below meth c D A nL cells slots Q ws pc lv (.ref b :: st) := by
  intro H locs ls hP hD hS h
  refine va_slen C.1 C.2.1 hX hbl hbA hS hdg ?_
  rw [show (Int32.ofNat L) = z_I (L : Int) from (Int32.ofInt_eq_ofNat (n := L)).symm]
  exact kk H locs ls hP hD hS h
theorem z_zrete {S : Type} (C : z_C p s m args meth c D tys A cc nL own Ts (some .boolean)) {w1 : S → va_W} {post : Int → S → Prop} {r : Int} (hQ : Q = z_QEi S D tys A args s below w1 post) (u : S) (hws : ws = w1 u) (hF : post r u) (hr : r = 0 ∨ r = 1) (hdg : decode cc pc = .ok (.ireturn, 1)) : z_V p l e R s m args below meth c D A nL 0 0 Q ws pc lv [.int (z_I r)] := by
  intro H locs ls hP hD hS h
  subst hQ; subst hws
  have hlocks := C.2.2.2.2.2.2.2.1
  have hn : narrow .boolean (.int (z_I r)) = .int (z_I r) := by rcases hr with rfl | rfl <;> decide
  exact W.zret C.1 C.2.1 C.2.2.2.2.2.2.1 hn (fun t ht hW => ⟨⟨_, u, rfl, ⟨r, rfl, hF⟩, by rw [ht]; exact hP, va_K.moved hW.alike C.2.2.2.2.2.1, hD⟩, hS.F ht⟩) hS.2.2 hdg hlocks
theorem z_zrett {S : Type} (C : z_C p s m args meth c D tys A cc nL own Ts (some .boolean)) {mc ms : Nat} {w1 : S → va_W} {post : Int → S → Prop} {r : Int} (hQ : Q = z_QT S D tys A args s below mc ms w1 post) (hc : cells = mc) (hs : slots = ms) (u : S) (hws : ws = w1 u) (hF : post r u) (hr : r = 0 ∨ r = 1) (hdg : decode cc pc = .ok (.ireturn, 1)) : z_V p l e R s m args below meth c D A nL cells slots Q ws pc lv [.int (z_I r)] := by
  intro H locs ls hP hD hS h
  subst hQ; subst hws; subst hc; subst hs
  have hlocks := C.2.2.2.2.2.2.2.1
  have hn : narrow .boolean (.int (z_I r)) = .int (z_I r) := by rcases hr with rfl | rfl <;> decide
  exact W.zret C.1 C.2.1 C.2.2.2.2.2.2.1 hn (fun t ht hW => ⟨⟨_, u, rfl, ⟨r, rfl, hF⟩, by rw [ht]; exact hP, va_K.moved hW.alike C.2.2.2.2.2.1, hD⟩, hS.F ht⟩) hS.2.2 hdg hlocks
theorem z_freeW {H : Heap} {locs : List Loc} (C : z_C p s m args meth c D tys A cc nL own Ts ret) (hD : va_D A ws) (hS : va_S A s.heap H locs) : ∀ q, va_A ws H.size q → A q := fun q h => h.elim (fun ⟨k, e, hk⟩ => hD.2 k _ hk) (fun h => C.2.2.2.2.2.2.2.2 q (Nat.le_trans hS.1 h))
theorem z_callLS {S : Type} (C : z_C p s m args meth c D tys A cc nL own Ts ret) (As rest : List Value) {y : MethodName} {bytes : ByteArray} {maxL fr lo index n : Nat} {ret' : Option FieldType} {wsy wsy' : List Cond} {w1 : S → va_W} {post : Int → S → Prop} (hM : z_Ei S l y wsy fr lo D tys As ws w1 post) (hG : GoodIn Ts (va_wsS own index y wsy)) (hw : wsy = Cond.code y bytes maxL ret' :: wsy') (hd : y.cls ≠ "java/lang/invoke/MethodHandle" ∧ y.cls ≠ "java/lang/invoke/VarHandle" ∧ (parseMethodDescriptor y.desc).map (fun d => d.parameters.length) = some n) (hn : As.length = n) (hR : fr + 1 ≤ R.frames ∧ 8 + (maxL + 11) + lo ≤ R.locals) (hst : st = As.reverse ++ rest) (hrest : (rest.map fun v => v.category).sum ≤ 8) (hcs : cells ≤ R.cells ∧ slots ≤ R.slots) (hdg : decode cc pc = .ok (.invokestatic index, 3)) (kk : ∀ (u : S) (i : Int), post i u → z_V p l e R s m args below meth c D A nL cells slots Q (w1 u) (pc + 3) lv (.int (z_I i) :: rest)) : z_V p l e R s m args below meth c D A nL cells slots Q ws pc lv st := by
  intro H locs ls hP hD hS h
  have hFc := z_freeW C hD hS
  refine va_calli (va_runS (rest := rest) ⟨C.1, C.2.1, C.2.2.1, C.2.2.2.1, C.2.2.2.2.1⟩ (hM H.size) (va_cwS n C.2.2.2.2.1 hG hw rfl rfl hd hR) ⟨z_blind, fun U hU hW => ⟨rfl, by rw [hU], by rw [hU]; exact hP, va_K.moved hW.alike C.2.2.2.2.2.1, hD.weaken (fun _ _ _ _ => trivial)⟩⟩ rfl hn h.1 hst (lv_room hrest) hdg hcs) hS (fun q _ h => hFc q h) hFc (fun r u t H1 locs1 ht hvm hr hB hz1 hk1 hS1 => ?_)
  obtain ⟨i, rfl, hpo⟩ := hr
  obtain ⟨hP1, hK1, hD1⟩ := hB
  rw [ht] at hP1
  exact kk u i hpo H1 locs1 ls hP1 (hD1.weaken (fun _ q _ hA => hFc q.1 hA)) hS1 h
theorem z_callLT {S : Type} (C : z_C p s m args meth c D tys A cc nL own Ts ret) (hN : z_NW s) (As rest : List Value) {y : MethodName} {bytes : ByteArray} {maxL fr lo mc ms index n : Nat} {ret' : Option FieldType} {wsy wsy' : List Cond} {w1 : S → va_W} {post : Int → S → Prop} (hM : z_Et S l y wsy fr lo mc ms D tys As ws w1 post) (hG : GoodIn Ts (va_wsS own index y wsy)) (hw : wsy = Cond.code y bytes maxL ret' :: wsy') (hd : y.cls ≠ "java/lang/invoke/MethodHandle" ∧ y.cls ≠ "java/lang/invoke/VarHandle" ∧ (parseMethodDescriptor y.desc).map (fun d => d.parameters.length) = some n) (hn : As.length = n) (hR : fr + 1 ≤ R.frames ∧ 8 + (maxL + 11) + lo ≤ R.locals) (hst : st = As.reverse ++ rest) (hrest : (rest.map fun v => v.category).sum ≤ 8) (hcs : cells + mc ≤ R.cells ∧ slots + ms ≤ R.slots) (hdg : decode cc pc = .ok (.invokestatic index, 3)) (kk : ∀ (u : S) (i : Int), post i u → z_V p l e R s m args below meth c D A nL (cells + mc) (slots + ms) Q (w1 u) (pc + 3) lv (.int (z_I i) :: rest)) : z_V p l e R s m args below meth c D A nL cells slots Q ws pc lv st := by
  intro H locs ls hP hD hS h
  have hFc := z_freeW C hD hS
  refine va_calli (va_runS (rest := rest) ⟨C.1, C.2.1, C.2.2.1, C.2.2.2.1, C.2.2.2.2.1⟩ (hM H.size) (va_cwS n C.2.2.2.2.1 hG hw rfl rfl hd hR) ⟨z_nblind, fun U hU hW => ⟨rfl, by rw [hU], by rw [hU]; exact hP, va_K.moved hW.alike C.2.2.2.2.2.1, hD.weaken (fun _ _ _ _ => trivial), z_NW_warm hW hN⟩⟩ rfl hn h.1 hst (lv_room hrest) hdg hcs) hS (fun q _ h => hFc q h) hFc (fun r u t H1 locs1 ht hvm hr hB hz1 hk1 hS1 => ?_)
  obtain ⟨i, rfl, hpo⟩ := hr
  obtain ⟨hP1, hK1, hD1⟩ := hB
  rw [ht] at hP1
  exact kk u i hpo H1 locs1 ls hP1 (hD1.weaken (fun _ q _ hA => hFc q.1 hA)) hS1 h
theorem z_xblind {As : List Value} {sz b L : Nat} {xs : Nat → Int32} : FrameBlind (va_Pc As (fun U => z_PRE D tys [] sz U ∧ va_X b L xs U U.heap ∧ b < sz)) := fun a U g mk q => by
  obtain ⟨q0, ⟨q1, qP, qK, qD⟩, qX, qb⟩ := q
  exact ⟨q0, ⟨q1, qP, va_K.moved (u := U) (U := U.calling g mk a) (Vm.Alike.refl U.vm) qK, qD⟩, va_X.moved (u := U) (U := U.calling g mk a) (Vm.Alike.refl U.vm) qX, qb⟩
theorem z_callX (C : z_C p s m args meth c D tys A cc nL own Ts ret) {b L : Nat} {xs : Nat → Int32} (hX : va_X b L xs s s.heap) (hbl : b < s.heap.size) (hbA : ¬ A b) (As rest : List Value) {y : MethodName} {bytes : ByteArray} {maxL fr lo index n : Nat} {ret' : Option FieldType} {wsy wsy' : List Cond} {F : Int} (hM : z_Mx l y wsy fr lo D tys b L xs As F) (hG : GoodIn Ts (va_wsS own index y wsy)) (hw : wsy = Cond.code y bytes maxL ret' :: wsy') (hd : y.cls ≠ "java/lang/invoke/MethodHandle" ∧ y.cls ≠ "java/lang/invoke/VarHandle" ∧ (parseMethodDescriptor y.desc).map (fun d => d.parameters.length) = some n) (hn : As.length = n) (hR : fr + 1 ≤ R.frames ∧ 8 + (maxL + 11) + lo ≤ R.locals) (hst : st = As.reverse ++ rest) (hrest : (rest.map fun v => v.category).sum ≤ 8) (hcs : cells ≤ R.cells ∧ slots ≤ R.slots) (hdg : decode cc pc = .ok (.invokestatic index, 3)) (kk : z_V p l e R s m args below meth c D A nL cells slots Q ws (pc + 3) lv (.int (z_I F) :: rest)) : z_V p l e R s m args below meth c D A nL cells slots Q ws pc lv st := by
  intro H locs ls hP hD hS h
  have hC : ([] : List Nat).map (fun i => ws[i]?) = ([] : va_W).map some := rfl
  have hPc : va_P D vwCl ([] : va_W) H := fun k q hq => by simp at hq
  have hDc : va_D (fun _ => True) ([] : va_W) := ⟨fun i j p q h => by simp at h, fun k q h => by simp at h⟩
  have hFc := z_freeA C hD hS hC
  have hXH : va_X b L xs s H := hX.kept (hS.2.1 b hbl hbA)
  have hbH : b < H.size := Nat.lt_of_lt_of_le hbl hS.1
  refine va_calli (va_runS (rest := rest) ⟨C.1, C.2.1, C.2.2.1, C.2.2.2.1, C.2.2.2.2.1⟩ (hM H.size) (va_cwS n C.2.2.2.2.1 hG hw rfl rfl hd hR) ⟨z_xblind, fun U hU hW => ⟨rfl, ⟨by rw [hU], by rw [hU]; exact hPc, va_K.moved hW.alike C.2.2.2.2.2.1, hDc⟩, by rw [hU]; exact hXH.moved hW.alike, hbH⟩⟩ rfl hn h.1 hst (lv_room hrest) hdg hcs) hS (fun q _ h => hFc q h) hFc (fun r u t H1 locs1 ht hvm hr hB hz1 hk1 hS1 => ?_)
  subst hr
  obtain ⟨hP1, hK1, hD1⟩ := hB
  rw [ht] at hP1
  obtain ⟨hP2, hD2⟩ := z_frame hP hD [] hC rfl hk1 hP1
  exact kk H1 locs1 ls hP2 hD2 hS1 h
end ZLC
