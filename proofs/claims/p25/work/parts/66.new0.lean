/-! ===== constructors: methods that make cells ===== -/
/-- what the tables say of the members of nest mates, and of the counters' arrays -/
def z_NW (U : State) : Prop := va_Nw (.methodLinkNest RX6 11 yX0_init RX6) U ∧ va_Nw (.methodLinkNest RX0 20 yX3_init RX6) U ∧ va_Nw (.methodLinkNest RX0 27 yX4_init RX6) U ∧ va_Nw (.methodLinkNest RX1 17 yX0_init RX6) U ∧ va_Nw (.methodLinkNest RX6 40 yX2_init RX6) U ∧ va_AO RX0 U
theorem z_NW_same {u U : State} (h : u.vm = U.vm) (q : z_NW u) : z_NW U :=
  ⟨va_Nw.same rfl h q.1, va_Nw.same rfl h q.2.1, va_Nw.same rfl h q.2.2.1, va_Nw.same rfl h q.2.2.2.1, va_Nw.same rfl h q.2.2.2.2.1, va_AO.moved (h ▸ Vm.Alike.refl u.vm) q.2.2.2.2.2⟩
theorem z_NW_warm {s U : State} (hW : s.WarmedH U.vm) (q : z_NW s) : z_NW U :=
  ⟨va_Nw.warmM hW q.1, va_Nw.warmM hW q.2.1, va_Nw.warmM hW q.2.2.1, va_Nw.warmM hW q.2.2.2.1, va_Nw.warmM hW q.2.2.2.2.1, va_AO.moved hW.alike q.2.2.2.2.2⟩
def z_NPRE (D : va_G) (tys : List (ClassId × FieldType)) (wc : va_W) (sz : Nat) : State → Prop := fun U => U.heap.size = sz ∧ va_P D vwCl wc U.heap ∧ va_K D vwCl tys U ∧ va_D (fun _ => True) wc ∧ z_NW U
/-- a contract of a method that makes mc cells of ms slots: it ends in a world of which P holds -/
def z_Nv (l : Launch) (y : MethodName) (wsy : List Cond) (fr lo mc ms : Nat) (D : va_G) (tys : List (ClassId × FieldType)) (As : List Value) (wc : va_W) (P : va_W → Prop) : Prop :=
  ∀ sz : Nat, Met l y wsy { frames := fr, cells := mc, slots := ms, locals := lo } (va_Pc As (z_NPRE D tys wc sz)) (va_Qv (S := va_W) P (fun w => z_B D tys (va_A wc sz) w) (va_A wc sz)) mc ms (va_A wc sz)
def z_QN (D : va_G) (tys : List (ClassId × FieldType)) (A : Nat → Prop) (args : Array Value) (s : State) (below : List Frame) (mc ms : Nat) (P : va_W → Prop) : State → Prop := MQ below (va_Qv (S := va_W) P (fun w => z_B D tys A w) A) args s mc ms A
theorem z_Nv_of {l : Launch} {y : MethodName} {wsy wsy' : List Cond} {cc : ByteArray} {nL fr lo mc ms : Nat} {ret : Option FieldType} {D : va_G} {tys : List (ClassId × FieldType)} {As : List Value} {wc : va_W} {P : va_W → Prop} (hy : plainName y.cls = true) (hyn : y.name = "<init>") (hw : wsy = Cond.code y cc nL ret :: wsy') (hnL : (lg_sl As).length ≤ nL)
    (body : ∀ (p : Program) (e : Env) (s : State) (m : MethodId) (args : Array Value) (below : List Frame) (meth : Method) (c : Code) (A : Nat → Prop) (Q : State → Prop), z_C p s m args meth c D tys A cc nL y.cls wsy ret → meth.name = "<init>" → z_NW s → Q = z_QN D tys A args s below mc ms P → z_V p l e { frames := fr, cells := mc, slots := ms, locals := lo } s m args below meth c D A nL 0 0 Q wc 0 (lv_args 0 As) []) : z_Nv l y wsy fr lo mc ms D tys As wc P := by
  intro sz
  refine Met.ofW hy hw ?_
  intro p e s m args below meth c s₁ B hml hv
  obtain ⟨rfl, hsz, hP, hK, hD0, hN⟩ := hv
  subst hsz
  have hts := atoms_spec (ws := wsy) B.pre
  have hl := lv_entry As (n := nL) hnL
  rw [lg_entry_eq]
  exact body p e s m _ below meth c (va_A wc s.heap.size) _ ⟨B.exec, B.bytes, hml, findClass_of_methodNamed B.named, hts, hK, B.returns, B.notSynchronized, fun q h => Or.inr h⟩ (by rw [← hyn]; exact (name_of_methodNamed B.named B.method).1) hN rfl s.heap [] _ hP hD0.self va_S.rf hl
theorem z_nblind {D : va_G} {tys : List (ClassId × FieldType)} {As : List Value} {wc : va_W} {sz : Nat} : FrameBlind (va_Pc As (z_NPRE D tys wc sz)) := fun a U g mk q => by
  obtain ⟨q0, q1, qP, qK, qD, qN⟩ := q
  exact ⟨q0, q1, qP, va_K.moved (u := U) (U := U.calling g mk a) (Vm.Alike.refl U.vm) qK, qD, z_NW_same (u := U) (U := U.calling g mk a) rfl qN⟩
theorem z_ndrange : ∀ n : Nat, ∀ k : Nat, va_nd (List.range' k n) = true
  | 0, _ => rfl
  | n + 1, k => by
    show (decide (k ∉ List.range' (k + 1) n) && va_nd (List.range' (k + 1) n)) = true
    rw [z_ndrange n (k + 1), Bool.and_true, decide_eq_true_eq]
    intro h
    have := (List.mem_range'_1.mp h).1
    omega
theorem z_joinN {A0 : Nat → Prop} {D : va_G} {cl : List vw_C} {wr w1 : va_W} {x : Nat × va_E} {H H1 : Heap} (hP : va_P D cl (wr ++ [x]) H) (hD : va_D A0 (wr ++ [x]))
    (hk : ∀ q : Nat, q < H.size → ¬ va_A [x] H.size q → H1[q]? = H[q]?) (hF : ∀ q, va_A [x] H.size q → A0 q) (hP1 : va_P D cl w1 H1) (hD1 : va_D (va_A [x] H.size) w1) : va_P D cl (wr ++ w1) H1 ∧ va_D A0 (wr ++ w1) := by
  refine va_join (wc := [x]) hP hD [wr.length] (List.range' 0 wr.length) ?_ ?_ (z_ndrange _ _) ?_ hk hF hP1 hD1
  · show [(wr ++ [x])[wr.length]?] = [some x]
    rw [List.getElem?_append_right (Nat.le_refl _), Nat.sub_self]
    rfl
  · apply List.ext_getElem?
    intro i
    rw [List.getElem?_map, List.getElem?_map]
    by_cases hi : i < wr.length
    · rw [List.getElem?_range' hi, Option.map_some]
      show some ((wr ++ [x])[0 + 1 * i]?) = (wr[i]?).map some
      rw [show 0 + 1 * i = i by omega, List.getElem?_append_left hi, List.getElem?_eq_getElem hi]
      rfl
    · rw [List.getElem?_eq_none (by rw [List.length_range']; omega), List.getElem?_eq_none (by omega)]
      rfl
  · intro i hi h
    have h1 := (List.mem_range'_1.mp hi).2
    have h2 := List.mem_singleton.mp h
    omega
section ZN
variable {p : Program} {l : Launch} {e : Env} {R : Room} {s : State} {m : MethodId} {args : Array Value} {below : List Frame} {meth : Method} {c : Code} {D : va_G} {tys : List (ClassId × FieldType)} {A : Nat → Prop} {cc : ByteArray} {nL cells slots : Nat} {own : String} {Ts : List Cond} {ret : Option FieldType} {Q : State → Prop} {ws : va_W} {pc : Nat} {lv : List (Nat × Value)} {st : List Value}
theorem z_nret (C : z_C p s m args meth c D tys A cc nL own Ts none) {mc ms : Nat} {P : va_W → Prop} (hQ : Q = z_QN D tys A args s below mc ms P) (hc : cells = mc) (hs : slots = ms) (hp : P ws) (hdg : decode cc pc = .ok (.return_, 1)) : z_V p l e R s m args below meth c D A nL cells slots Q ws pc lv [] := by
  intro H locs ls hP hD hS h
  subst hQ; subst hc; subst hs
  have hlocks := C.2.2.2.2.2.2.2.1
  exact W.vret C.1 C.2.1 C.2.2.2.2.2.2.1 (fun t ht hW => ⟨⟨ws, rfl, hp, by rw [ht]; exact hP, va_K.moved hW.alike C.2.2.2.2.2.1, hD⟩, hS.F ht⟩) hS.2.2 hdg hlocks
theorem z_obj (C : z_C p s m args meth c D tys A cc nL own Ts ret) {idx a : Nat} (hl : Cond.methodLink own idx objectInit ∈ Ts) (hi : Cond.instanceMethod objectInit ∈ Ts) (hc : Cond.code objectInit ⟨#[0xb1]⟩ 1 none ∈ Ts) (hR : 1 ≤ R.frames ∧ 20 ≤ R.locals) (hst : (st.map fun v => v.category).sum ≤ 8) (hdg : decode cc pc = .ok (.invokespecial idx, 3)) (kk : z_V p l e R s m args below meth c D A nL cells slots Q ws (pc + 3) lv st) : z_V p l e R s m args below meth c D A nL cells slots Q ws pc lv (.ref a :: st) := by
  intro H locs ls hP hD hS h
  have h9 := lv_room (m := m) (pc := pc) (ls := ls) (rest := .ref a :: st) hst
  exact W.objInit C.1 C.2.1 C.2.2.2.1 (C.2.2.2.2.1 _ hl) (C.2.2.2.2.1 _ hi) (C.2.2.2.2.1 _ hc) rfl (by rw [C.2.2.1]; exact h.1) rfl hdg hR.1 (by omega) (kk H locs ls hP hD hS h)
theorem z_new (C : z_C p s m args meth c D tys A cc nL own Ts ret) (ws' : Nat → va_W) {index ci N : Nat} {Cn : String} {T : u_T} {ty0 : Nat → FieldType} {fs : List Value} (hin : ∀ w ∈ u_ws Cn T N, w ∈ Ts) (hty : ∀ k, k < N → parseFieldDescriptor (T k).2.2.1 = some (ty0 k)) (hcl : Cond.classLink own index Cn ∈ Ts) (hinst : Cond.instantiable Cn N ∈ Ts) (hini : Cond.initialized Cn ∈ Ts) (hc : vwCl[ci]? = some (Cn, T, N)) (hfs : ∀ j, j < N → defaultValue (ty0 j) = vp_V fs j) (hR : cells + 1 ≤ R.cells ∧ slots + N ≤ R.slots) (hws : ∀ q, ws ++ [(q, .inr (ci, fs))] = ws' q) (hdg : decode cc pc = .ok (.new index, 3)) (kk : ∀ q : Nat, z_V p l e R s m args below meth c D A nL (cells + 1) (slots + N) Q (ws' q) (pc + 3) lv (.ref q :: st)) : z_V p l e R s m args below meth c D A nL cells slots Q ws pc lv st :=
  fun H locs ls hP hD hS h => va_new C.1 C.2.1 C.2.2.2.2.1 hin ty0 hty C.2.2.2.1 (C.2.2.2.2.1 _ hcl) (C.2.2.2.2.1 _ hinst) (C.2.2.2.2.1 _ hini) C.2.2.2.2.2.1 hP hD hS C.2.2.2.2.2.2.2.2 hc hfs hR.1 hR.2 hdg (fun q H1 hP1 hD1 hS1 => kk q H1 locs ls (hws q ▸ hP1) (hws q ▸ hD1) hS1 h)
theorem z_RA_prim {cA cB : ClassId} {ty : FieldType} (hty : ty = .int ∨ ty = .boolean) (h1 : va_RA s cA ty) (h2 : va_RA s cB ty) : cA = cB := by
  rcases hty with rfl | rfl
  · exact Option.some.inj (Eq.trans (Eq.symm (show s.vm.findClass _ = some cA from h1)) (show s.vm.findClass _ = some cB from h2))
  · exact Option.some.inj (Eq.trans (Eq.symm (show s.vm.findClass _ = some cA from h1)) (show s.vm.findClass _ = some cB from h2))
theorem z_last {α : Type} (l : List α) (x : α) : (l ++ [x])[l.length]? = some x := by
  rw [List.getElem?_append_right (Nat.le_refl _), Nat.sub_self]
  rfl
theorem z_newa (C : z_C p s m args meth c D tys A cc nL own Ts ret) (t0 n : Nat) (ws' : Nat → va_W) {at0 : ArrayType} {ty : FieldType} {cA : ClassId} {i : Int} (hi : i = (n : Int)) (harr : Cond.arrayClass ty ∈ Ts) (hty : newarray.typeOf at0 = ty) (hpr : ty = .int ∨ ty = .boolean) (ht : tys[t0]? = some (cA, ty)) (hn : n < 100000) (hR : cells + 1 ≤ R.cells ∧ slots + n ≤ R.slots) (hws : ∀ q, ws ++ [(q, z_ai cA n (fun _ => 0))] = ws' q) (hdg : decode cc pc = .ok (.newarray at0, 2)) (kk : ∀ q : Nat, z_V p l e R s m args below meth c D A nL (cells + 1) (slots + n) Q (ws' q) (pc + 2) lv (.ref q :: st)) : z_V p l e R s m args below meth c D A nL cells slots Q ws pc lv (.int (z_I i) :: st) := by
  intro H locs ls hP hD hS h
  subst hi
  have e1 : (z_I (n : Int)).toNatClampNeg = n := by
    show (z_I (n : Int)).toInt.toNat = n
    rw [z_I_toInt (by omega)]
    omega
  have e2 : ¬ z_I (n : Int) < 0 := fun q => by
    have := (z_I_lt (a := (n : Int)) (b := 0) (by omega) (by omega)).mp q
    omega
  have hb : componentBytes ty ≤ 8 := by rcases hpr with rfl | rfl <;> decide
  have hd : defaultValue ty = .int (z_I 0) := by rcases hpr with rfl | rfl <;> rfl
  refine va_newa (a0 := (n, .inl (z_F (fun _ => 0)))) C.1 C.2.1 (C.2.2.2.2.1 _ (hty ▸ harr)) hty C.2.2.2.2.2.1 hP hD hS C.2.2.2.2.2.2.2.2 (fun cB => by rw [hd]; rfl) e2 e1 (Nat.le_trans (Nat.mul_le_mul_left n hb) (by omega)) hR.1 hR.2 hdg (fun q cB H1 hK1 hP1 hD1 hS1 => ?_)
  have hc : cB = cA := z_RA_prim hpr (hK1.2 _ _ (z_last _ _)).2 (C.2.2.2.2.2.1.2 _ _ ht).2
  subst hc
  exact kk q H1 locs ls (hws q ▸ hP1) (hws q ▸ hD1) hS1 h
theorem z_newq (C : z_C p s m args meth c D tys A cc nL own Ts ret) (hN : z_NW s) (t0 n : Nat) (ws' : Nat → va_W) {cA : ClassId} {i : Int} {index : Nat} (hi : i = (n : Int)) (hcl : Cond.classLink own index RX0 ∈ Ts) (ht : tys[t0]? = some (cA, .object RX0)) (hn : n < 100000) (hR : cells + 1 ≤ R.cells ∧ slots + n ≤ R.slots) (hws : ∀ q, ws ++ [(q, .inl (cA, n, .inr (.inr (.inr (.inr (z_rw []))))))] = ws' q) (hdg : decode cc pc = .ok (.anewarray index, 3)) (kk : ∀ q : Nat, z_V p l e R s m args below meth c D A nL (cells + 1) (slots + n) Q (ws' q) (pc + 3) lv (.ref q :: st)) : z_V p l e R s m args below meth c D A nL cells slots Q ws pc lv (.int (z_I i) :: st) := by
  intro H locs ls hP hD hS h
  subst hi
  have e1 : (z_I (n : Int)).toNatClampNeg = n := by
    show (z_I (n : Int)).toInt.toNat = n
    rw [z_I_toInt (by omega)]
    omega
  have e2 : ¬ z_I (n : Int) < 0 := fun q => by
    have := (z_I_lt (a := (n : Int)) (b := 0) (by omega) (by omega)).mp q
    omega
  refine va_newq C.1 C.2.1 C.2.2.2.1 (C.2.2.2.2.1 _ hcl) hN.2.2.2.2.2 C.2.2.2.2.2.1 hP hD hS C.2.2.2.2.2.2.2.2 e2 e1 (by omega) hR.1 hR.2 hdg (fun q cB H1 hK1 hP1 hD1 hS1 => ?_)
  have hc : cB = cA := by
    obtain ⟨k1, c1, -, -, -, f1⟩ := (hK1.2 _ _ (z_last _ _)).2
    obtain ⟨k2, c2, -, -, -, f2⟩ := (C.2.2.2.2.2.1.2 _ _ ht).2
    exact Option.some.inj (f1.symm.trans f2)
  subst hc
  have hz : (fun _ => none : Nat → Option Nat) = z_rw [] := by
    funext k
    rfl
  rw [hz] at hP1 hD1
  exact kk q H1 locs ls (hws q ▸ hP1) (hws q ▸ hD1) hS1 h
theorem z_rw_up (L : List Nat) (v : Nat) : va_up (z_rw L) L.length (some v) = z_rw (L ++ [v]) := by
  funext k
  unfold va_up z_rw
  by_cases hk : k = L.length
  · subst hk
    rw [if_pos rfl, z_last]
  · rw [if_neg hk]
    by_cases h2 : k < L.length
    · rw [List.getElem?_append_left h2]
    · rw [List.getElem?_eq_none (by omega), List.getElem?_eq_none (by rw [List.length_append]; show L.length + 1 ≤ k; omega)]
theorem z_astq (C : z_C p s m args meth c D tys A cc nL own Ts ret) (q0 t0 qk : Nat) (ws' : va_W) {a n v : Nat} {cA : ClassId} {L : List Nat} {vs : List Value} {i : Int} (ha : ws[q0]? = some (a, .inl (cA, n, .inr (.inr (.inr (.inr (z_rw L))))))) (ht : tys[t0]? = some (cA, .object RX0)) (hv : ws[qk]? = some (v, .inr (0, vs))) (hi : i = (L.length : Int)) (hn : L.length < n ∧ n < 100000) (hws : ws.set q0 (a, .inl (cA, n, .inr (.inr (.inr (.inr (z_rw (L ++ [v])))))))  = ws') (hdg : decode cc pc = .ok (.aastore, 1)) (kk : z_V p l e R s m args below meth c D A nL cells slots Q ws' (pc + 1) lv st) : z_V p l e R s m args below meth c D A nL cells slots Q ws pc lv (.ref v :: .int (z_I i) :: .ref a :: st) := by
  intro H locs ls hP hD hS h
  subst hi
  have e1 : (z_I (L.length : Int)).toNatClampNeg = L.length := by
    show (z_I (L.length : Int)).toInt.toNat = L.length
    rw [z_I_toInt (by omega)]
    omega
  refine va_astq (r := (RX0, TX0, 8)) C.1 C.2.1 C.2.2.2.2.2.1 hP hD hS q0 t0 qk 0 ha ht hv rfl (z_in (by omega) (by omega) (by omega)) hdg (fun H1 locs1 hP1 hD1 hS1 => ?_)
  rw [e1, z_rw_up] at hP1 hD1
  exact kk H1 locs1 ls (hws ▸ hP1) (hws ▸ hD1) hS1 h
theorem z_freeN {x : Nat × va_E} {wr : va_W} {H : Heap} {locs : List Loc} (C : z_C p s m args meth c D tys A cc nL own Ts ret) (hD : va_D A (wr ++ [x])) (hS : va_S A s.heap H locs) : ∀ q, va_A [x] H.size q → A q := va_free hD hS C.2.2.2.2.2.2.2.2 [wr.length] (by show [(wr ++ [x])[wr.length]?] = [some x]; rw [z_last])
theorem z_oneN {x : Nat × va_E} {wr : va_W} {H : Heap} (hP : va_P D vwCl (wr ++ [x]) H) (hD : va_D A (wr ++ [x])) : va_P D vwCl [x] H ∧ va_D (fun _ => True) [x] := by
  have hC : [wr.length].map (fun i => (wr ++ [x])[i]?) = [x].map some := by
    show [(wr ++ [x])[wr.length]?] = [some x]
    rw [z_last]
  refine ⟨fun k q hq => ?_, (hD.sub [wr.length] rfl hC).weaken (fun _ _ _ _ => trivial)⟩
  obtain ⟨i, -, h2⟩ := z_mapat hC k q hq
  exact hP i q h2
theorem z_callN (C : z_C p s m args meth c D tys A cc nL own Ts ret) (hN : z_NW s) (wr : va_W) {y : MethodName} {bytes : ByteArray} {maxL fr lo mc ms index b : Nat} {wsy wsy' : List Cond} {e0 : va_E} {P : va_W → Prop} (hM : z_Nv l y wsy fr lo mc ms D tys [.ref b] [(b, e0)] P) (hG : GoodIn Ts wsy) (hw : wsy = Cond.code y bytes maxL none :: wsy') (hl : Cond.methodLink own index y ∈ Ts) (hi : Cond.instanceMethod y ∈ Ts) (hini : Cond.initialized y.cls ∈ Ts) (hyn : y.name = "<init>") (hd : y.cls ≠ "java/lang/invoke/MethodHandle" ∧ y.cls ≠ "java/lang/invoke/VarHandle" ∧ (parseMethodDescriptor y.desc).map (fun d => d.parameters.length) = some 0) (hR : fr + 1 ≤ R.frames ∧ 8 + (maxL + 11) + lo ≤ R.locals) (hws : ws = wr ++ [(b, e0)]) (hrest : (st.map fun v => v.category).sum ≤ 8) (hcs : cells + mc ≤ R.cells ∧ slots + ms ≤ R.slots) (hdg : decode cc pc = .ok (.invokespecial index, 3)) (kk : ∀ w, P w → z_V p l e R s m args below meth c D A nL (cells + mc) (slots + ms) Q (wr ++ w) (pc + 3) lv st) : z_V p l e R s m args below meth c D A nL cells slots Q ws pc lv (.ref b :: st) := by
  intro H locs ls hP hD hS h
  subst hws
  obtain ⟨hPc, hDc⟩ := z_oneN hP hD
  have hFc := z_freeN C hD hS
  refine va_callv (va_runI (As := []) (rest := st) ⟨C.1, C.2.1, C.2.2.1, C.2.2.2.1, C.2.2.2.2.1⟩ (hM H.size) (cwI 0 C.2.2.2.2.1 hG hw rfl rfl (C.2.2.2.2.1 _ hini) (C.2.2.2.2.1 _ hl) (C.2.2.2.2.1 _ hi) hyn hd hR) ⟨z_nblind, fun U hU hW => ⟨rfl, by rw [hU], by rw [hU]; exact hPc, va_K.moved hW.alike C.2.2.2.2.2.1, hDc, z_NW_warm hW hN⟩⟩ rfl rfl h.1 rfl (lv_room hrest) hdg hcs) hS (fun q _ h => hFc q h) hFc (fun w t H1 locs1 ht hvm hr hB hz1 hk1 hS1 => ?_)
  obtain ⟨hP1, hK1, hD1⟩ := hB
  rw [ht] at hP1
  obtain ⟨hP2, hD2⟩ := z_joinN hP hD hk1 hFc hP1 hD1
  exact kk w hr H1 locs1 ls hP2 hD2 hS1 h
theorem z_callNN (C : z_C p s m args meth c D tys A cc nL own Ts ret) (hN : z_NW s) (wr : va_W) {y : MethodName} {host : String} {bytes : ByteArray} {maxL fr lo mc ms index b : Nat} {wsy wsy' : List Cond} {e0 : va_E} {P : va_W → Prop} (hM : z_Nv l y wsy fr lo mc ms D tys [.ref b] [(b, e0)] P) (hG : GoodIn Ts wsy) (hw : wsy = Cond.code y bytes maxL none :: wsy') (hl : va_Nw (.methodLinkNest own index y host) s) (hi : Cond.instanceMethod y ∈ Ts) (hini : Cond.initialized y.cls ∈ Ts) (hyn : y.name = "<init>") (hd : y.cls ≠ "java/lang/invoke/MethodHandle" ∧ y.cls ≠ "java/lang/invoke/VarHandle" ∧ (parseMethodDescriptor y.desc).map (fun d => d.parameters.length) = some 0) (hR : fr + 1 ≤ R.frames ∧ 8 + (maxL + 11) + lo ≤ R.locals) (hws : ws = wr ++ [(b, e0)]) (hrest : (st.map fun v => v.category).sum ≤ 8) (hcs : cells + mc ≤ R.cells ∧ slots + ms ≤ R.slots) (hdg : decode cc pc = .ok (.invokespecial index, 3)) (kk : ∀ w, P w → z_V p l e R s m args below meth c D A nL (cells + mc) (slots + ms) Q (wr ++ w) (pc + 3) lv st) : z_V p l e R s m args below meth c D A nL cells slots Q ws pc lv (.ref b :: st) := by
  intro H locs ls hP hD hS h
  subst hws
  obtain ⟨hPc, hDc⟩ := z_oneN hP hD
  have hFc := z_freeN C hD hS
  refine va_callv (va_runIN (As := []) (rest := st) ⟨C.1, C.2.1, C.2.2.1, C.2.2.2.1, C.2.2.2.2.1⟩ (hM H.size) ⟨va_cnB 0 C.2.2.2.2.1 hG hw rfl rfl hl (C.2.2.2.2.1 _ hini) hd hR, hyn, C.2.2.2.2.1 _ hi⟩ ⟨z_nblind, fun U hU hW => ⟨rfl, by rw [hU], by rw [hU]; exact hPc, va_K.moved hW.alike C.2.2.2.2.2.1, hDc, z_NW_warm hW hN⟩⟩ rfl rfl h.1 rfl (lv_room hrest) hdg hcs) hS (fun q _ h => hFc q h) hFc (fun w t H1 locs1 ht hvm hr hB hz1 hk1 hS1 => ?_)
  obtain ⟨hP1, hK1, hD1⟩ := hB
  rw [ht] at hP1
  obtain ⟨hP2, hD2⟩ := z_joinN hP hD hk1 hFc hP1 hD1
  exact kk w hr H1 locs1 ls hP2 hD2 hS1 h
end ZN
