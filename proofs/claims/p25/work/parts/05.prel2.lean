/-! ===== contracts, calls, ends ===== -/
def z_rep : va_W → List Nat → va_W → va_W
  | ws, i :: is, e :: es => z_rep (ws.set i e) is es
  | ws, _, _ => ws
theorem z_rep_at : ∀ (is : List Nat) (es ws : va_W), is.length = es.length → ∀ (k : Nat) (q : Nat × va_E), (z_rep ws is es)[k]? = some q → q ∈ es ∨ (ws[k]? = some q ∧ k ∉ is)
  | [], [], ws, _, k, q, h => Or.inr ⟨h, List.not_mem_nil⟩
  | i :: is, e :: es, ws, hl, k, q, h => by
    have h1 : (z_rep (ws.set i e) is es)[k]? = some q := h
    rcases z_rep_at is es (ws.set i e) (by simpa using hl) k q h1 with h2 | ⟨h2, h3⟩
    · exact Or.inl (List.mem_cons_of_mem _ h2)
    · by_cases hk : k = i
      · subst hk
        left
        rw [List.getElem?_set] at h2
        split at h2
        · split at h2
          · cases h2; exact List.mem_cons_self
          · cases h2
        · rename_i hx; exact absurd rfl hx
      · rw [List.getElem?_set_ne (Ne.symm hk)] at h2
        exact Or.inr ⟨h2, fun hm => (List.mem_cons.mp hm).elim hk h3⟩
theorem z_set_adr {ws : va_W} {i : Nat} {e : Nat × va_E} (h : (ws[i]?).map (·.1) = some e.1) : (ws.set i e).map (·.1) = ws.map (·.1) := by
  apply List.ext_getElem?
  intro k
  rw [List.getElem?_map, List.getElem?_map, List.getElem?_set]
  by_cases hk : i = k
  · subst hk
    rw [if_pos rfl]
    cases hw : ws[i]? with
    | none => rw [hw] at h; cases h
    | some x =>
      have hl := (List.getElem?_eq_some_iff.mp hw).1
      rw [if_pos hl]
      rw [hw] at h
      exact h.symm
  · rw [if_neg hk]
theorem z_rep_adr : ∀ (is : List Nat) (es ws : va_W), is.map (fun i => (ws[i]?).map (·.1)) = es.map (fun e => some e.1) → (z_rep ws is es).map (·.1) = ws.map (·.1)
  | [], [], ws, _ => rfl
  | [], _ :: _, ws, h => by simp at h
  | _ :: _, [], ws, h => by simp at h
  | i :: is, e :: es, ws, h => by
    simp only [List.map_cons, List.cons.injEq] at h
    have hs := z_set_adr h.1
    show (z_rep (ws.set i e) is es).map (·.1) = _
    rw [z_rep_adr is es (ws.set i e) ?_, hs]
    rw [← h.2]
    refine List.map_congr_left (fun j _ => ?_)
    have h2 : ((ws.set i e).map (·.1))[j]? = (ws.map (·.1))[j]? := by rw [hs]
    rw [List.getElem?_map, List.getElem?_map] at h2
    exact h2
theorem z_D_adr {A : Nat → Prop} {ws ws' : va_W} (hD : va_D A ws) (h : ws'.map (·.1) = ws.map (·.1)) : va_D A ws' := by
  have key : ∀ (k : Nat) (q : Nat × va_E), ws'[k]? = some q → ∃ q0, ws[k]? = some q0 ∧ q0.1 = q.1 := by
    intro k q hk
    have h1 : (ws'.map (·.1))[k]? = some q.1 := by rw [List.getElem?_map, hk]; rfl
    rw [h, List.getElem?_map] at h1
    cases hw : ws[k]? with
    | none => rw [hw] at h1; cases h1
    | some x => rw [hw] at h1; exact ⟨x, rfl, Option.some.inj h1⟩
  refine ⟨fun i j p q hi hj hpq => ?_, fun k q hk => ?_⟩
  · obtain ⟨p0, a1, a2⟩ := key i p hi
    obtain ⟨q0, b1, b2⟩ := key j q hj
    exact hD.1 i j p0 q0 a1 b1 (by rw [a2, b2]; exact hpq)
  · obtain ⟨q0, b1, b2⟩ := key k q hk
    rw [← b2]
    exact hD.2 k q0 b1
theorem z_mapat {ws wc : va_W} {isC : List Nat} (hC : isC.map (fun i => ws[i]?) = wc.map some) (k : Nat) (q : Nat × va_E) (hq : wc[k]? = some q) : ∃ i, isC[k]? = some i ∧ ws[i]? = some q := by
  have h1 : (isC.map (fun i => ws[i]?))[k]? = some (some q) := by rw [hC, List.getElem?_map, hq]; rfl
  rw [List.getElem?_map] at h1
  cases hi : isC[k]? with
  | none => rw [hi] at h1; cases h1
  | some i => rw [hi] at h1; exact ⟨i, rfl, Option.some.inj h1⟩
theorem z_frame {A0 : Nat → Prop} {D : va_G} {cl : List vw_C} {ws wc w1 : va_W} {H H1 : Heap} (hP : va_P D cl ws H) (hD : va_D A0 ws) (isC : List Nat) (hC : isC.map (fun i => ws[i]?) = wc.map some) (hadr : wc.map (·.1) = w1.map (·.1))
    (hk : ∀ q : Nat, q < H.size → ¬ va_A wc H.size q → H1[q]? = H[q]?) (hP1 : va_P D cl w1 H1) : va_P D cl (z_rep ws isC w1) H1 ∧ va_D A0 (z_rep ws isC w1) := by
  have hl : isC.length = w1.length := by
    have h1 := congrArg List.length hC
    have h2 := congrArg List.length hadr
    simp at h1 h2
    omega
  refine ⟨fun k q hq => ?_, z_D_adr hD (z_rep_adr isC w1 ws ?_)⟩
  · rcases z_rep_at isC w1 ws hl k q hq with h | ⟨h, hni⟩
    · obtain ⟨j, hj⟩ := List.getElem?_of_mem h
      exact hP1 j q hj
    · have hlt := (hP k q h).lt
      refine (hP k q h).kept (hk q.1 hlt (fun ha => ?_))
      rcases ha with ⟨k2, e, h2⟩ | h2
      · obtain ⟨i, h3, h4⟩ := z_mapat hC k2 (q.1, e) h2
        have := hD.1 k i q (q.1, e) h h4 rfl
        subst this
        exact hni (List.mem_of_getElem? h3)
      · omega
  · have h1 : isC.map (fun i => (ws[i]?).map (·.1)) = (isC.map (fun i => ws[i]?)).map (fun o => o.map (·.1)) := by rw [List.map_map]; rfl
    rw [h1, hC, List.map_map]
    have h2 : w1.map (fun e => some e.1) = (w1.map (·.1)).map some := by rw [List.map_map]; rfl
    rw [h2, ← hadr, List.map_map]
    rfl
def z_PRE (D : va_G) (tys : List (ClassId × FieldType)) (wc : va_W) (sz : Nat) : State → Prop := fun U => U.heap.size = sz ∧ va_P D vwCl wc U.heap ∧ va_K D vwCl tys U ∧ va_D (fun _ => True) wc
def z_B (D : va_G) (tys : List (ClassId × FieldType)) (A : Nat → Prop) (w1 : va_W) : State → Prop := fun t => va_P D vwCl w1 t.heap ∧ va_K D vwCl tys t ∧ va_D A w1
/-- a contract: from the cells wc to the cells w1, the answer F (void: z_Mv); fr, lo: the room of its callees -/
def z_Mi (l : Launch) (y : MethodName) (wsy : List Cond) (fr lo : Nat) (D : va_G) (tys : List (ClassId × FieldType)) (As : List Value) (wc w1 : va_W) (F : Int) : Prop :=
  ∀ sz : Nat, Met l y wsy { frames := fr, cells := 0, slots := 0, locals := lo } (va_Pc As (z_PRE D tys wc sz)) (va_Qi (S := Unit) (fun r _ => r = z_I F) (fun _ => z_B D tys (va_A wc sz) w1) (va_A wc sz)) 0 0 (va_A wc sz)
def z_Mv (l : Launch) (y : MethodName) (wsy : List Cond) (fr lo : Nat) (D : va_G) (tys : List (ClassId × FieldType)) (As : List Value) (wc w1 : va_W) : Prop :=
  ∀ sz : Nat, Met l y wsy { frames := fr, cells := 0, slots := 0, locals := lo } (va_Pc As (z_PRE D tys wc sz)) (va_Qv (S := Unit) (fun _ => True) (fun _ => z_B D tys (va_A wc sz) w1) (va_A wc sz)) 0 0 (va_A wc sz)
def z_Qi (D : va_G) (tys : List (ClassId × FieldType)) (A : Nat → Prop) (args : Array Value) (s : State) (below : List Frame) (w1 : va_W) (F : Int) : State → Prop := MQ below (va_Qi (S := Unit) (fun r _ => r = z_I F) (fun _ => z_B D tys A w1) A) args s 0 0 A
def z_Qv (D : va_G) (tys : List (ClassId × FieldType)) (A : Nat → Prop) (args : Array Value) (s : State) (below : List Frame) (w1 : va_W) : State → Prop := MQ below (va_Qv (S := Unit) (fun _ => True) (fun _ => z_B D tys A w1) A) args s 0 0 A
theorem z_Mi_of {l : Launch} {y : MethodName} {wsy wsy' : List Cond} {cc : ByteArray} {nL fr lo : Nat} {ret : Option FieldType} {D : va_G} {tys : List (ClassId × FieldType)} {As : List Value} {wc w1 : va_W} {F : Int} (hy : plainName y.cls = true) (hw : wsy = Cond.code y cc nL ret :: wsy') (hnL : (lg_sl As).length ≤ nL)
    (body : ∀ (p : Program) (e : Env) (s : State) (m : MethodId) (args : Array Value) (below : List Frame) (meth : Method) (c : Code) (A : Nat → Prop) (Q : State → Prop), z_C p s m args meth c D tys A cc nL y.cls wsy ret → Q = z_Qi D tys A args s below w1 F → z_V p l e { frames := fr, cells := 0, slots := 0, locals := lo } s m args below meth c D A nL 0 0 Q wc 0 (lv_args 0 As) []) : z_Mi l y wsy fr lo D tys As wc w1 F := by
  intro sz
  refine Met.ofW hy hw ?_
  intro p e s m args below meth c s₁ B hml hv
  obtain ⟨rfl, hsz, hP, hK, hD0⟩ := hv
  subst hsz
  have hts := atoms_spec (ws := wsy) B.pre
  have hl := lv_entry As (n := nL) hnL
  rw [lg_entry_eq]
  exact body p e s m _ below meth c (va_A wc s.heap.size) _ ⟨B.exec, B.bytes, hml, findClass_of_methodNamed B.named, hts, hK, B.returns, B.notSynchronized, fun q h => Or.inr h⟩ rfl s.heap [] _ hP hD0.self va_S.rf hl
theorem z_Mv_of {l : Launch} {y : MethodName} {wsy wsy' : List Cond} {cc : ByteArray} {nL fr lo : Nat} {ret : Option FieldType} {D : va_G} {tys : List (ClassId × FieldType)} {As : List Value} {wc w1 : va_W} (hy : plainName y.cls = true) (hw : wsy = Cond.code y cc nL ret :: wsy') (hnL : (lg_sl As).length ≤ nL)
    (body : ∀ (p : Program) (e : Env) (s : State) (m : MethodId) (args : Array Value) (below : List Frame) (meth : Method) (c : Code) (A : Nat → Prop) (Q : State → Prop), z_C p s m args meth c D tys A cc nL y.cls wsy ret → Q = z_Qv D tys A args s below w1 → z_V p l e { frames := fr, cells := 0, slots := 0, locals := lo } s m args below meth c D A nL 0 0 Q wc 0 (lv_args 0 As) []) : z_Mv l y wsy fr lo D tys As wc w1 := by
  intro sz
  refine Met.ofW hy hw ?_
  intro p e s m args below meth c s₁ B hml hv
  obtain ⟨rfl, hsz, hP, hK, hD0⟩ := hv
  subst hsz
  have hts := atoms_spec (ws := wsy) B.pre
  have hl := lv_entry As (n := nL) hnL
  rw [lg_entry_eq]
  exact body p e s m _ below meth c (va_A wc s.heap.size) _ ⟨B.exec, B.bytes, hml, findClass_of_methodNamed B.named, hts, hK, B.returns, B.notSynchronized, fun q h => Or.inr h⟩ rfl s.heap [] _ hP hD0.self va_S.rf hl
section ZC
variable {p : Program} {l : Launch} {e : Env} {R : Room} {s : State} {m : MethodId} {args : Array Value} {below : List Frame} {meth : Method} {c : Code} {D : va_G} {tys : List (ClassId × FieldType)} {A : Nat → Prop} {cc : ByteArray} {nL cells slots : Nat} {own : String} {Ts : List Cond} {ret : Option FieldType} {Q : State → Prop} {ws : va_W} {pc : Nat} {lv : List (Nat × Value)} {st : List Value}
theorem z_iret (C : z_C p s m args meth c D tys A cc nL own Ts (some .int)) {w1 : va_W} {F r : Int} (hQ : Q = z_Qi D tys A args s below w1 F) (hws : ws = w1) (hF : r = F) (hdg : decode cc pc = .ok (.ireturn, 1)) : z_V p l e R s m args below meth c D A nL 0 0 Q ws pc lv [.int (z_I r)] := by
  intro H locs ls hP hD hS h
  subst hQ; subst hws; subst hF
  have hlocks := C.2.2.2.2.2.2.2.1
  exact W.iret C.1 C.2.1 C.2.2.2.2.2.2.1 (fun t ht hW => ⟨⟨_, (), rfl, rfl, by rw [ht]; exact hP, va_K.moved hW.alike C.2.2.2.2.2.1, hD⟩, hS.F ht⟩) hS.2.2 hdg hlocks
theorem z_zret (C : z_C p s m args meth c D tys A cc nL own Ts (some .boolean)) {w1 : va_W} {F r : Int} (hQ : Q = z_Qi D tys A args s below w1 F) (hws : ws = w1) (hF : r = F) (hr : r = 0 ∨ r = 1) (hdg : decode cc pc = .ok (.ireturn, 1)) : z_V p l e R s m args below meth c D A nL 0 0 Q ws pc lv [.int (z_I r)] := by
  intro H locs ls hP hD hS h
  subst hQ; subst hws; subst hF
  have hlocks := C.2.2.2.2.2.2.2.1
  have hn : narrow .boolean (.int (z_I r)) = .int (z_I r) := by rcases hr with rfl | rfl <;> decide
  exact W.zret C.1 C.2.1 C.2.2.2.2.2.2.1 hn (fun t ht hW => ⟨⟨_, (), rfl, rfl, by rw [ht]; exact hP, va_K.moved hW.alike C.2.2.2.2.2.1, hD⟩, hS.F ht⟩) hS.2.2 hdg hlocks
theorem z_vret (C : z_C p s m args meth c D tys A cc nL own Ts none) {w1 : va_W} (hQ : Q = z_Qv D tys A args s below w1) (hws : ws = w1) (hdg : decode cc pc = .ok (.return_, 1)) : z_V p l e R s m args below meth c D A nL 0 0 Q ws pc lv [] := by
  intro H locs ls hP hD hS h
  subst hQ; subst hws
  have hlocks := C.2.2.2.2.2.2.2.1
  exact W.vret C.1 C.2.1 C.2.2.2.2.2.2.1 (fun t ht hW => ⟨⟨(), rfl, trivial, by rw [ht]; exact hP, va_K.moved hW.alike C.2.2.2.2.2.1, hD⟩, hS.F ht⟩) hS.2.2 hdg hlocks
theorem z_blind {As : List Value} {wc : va_W} {sz : Nat} : FrameBlind (va_Pc As (z_PRE D tys wc sz)) := fun a U g mk q => by
  obtain ⟨q0, q1, qP, qK, qD⟩ := q
  exact ⟨q0, q1, qP, va_K.moved (u := U) (U := U.calling g mk a) (Vm.Alike.refl U.vm) qK, qD⟩
theorem z_freeA {wc : va_W} {isC : List Nat} {H : Heap} {locs : List Loc} (C : z_C p s m args meth c D tys A cc nL own Ts ret) (hD : va_D A ws) (hS : va_S A s.heap H locs) (hC : isC.map (fun i => ws[i]?) = wc.map some) : ∀ q, va_A wc H.size q → A q := va_free hD hS C.2.2.2.2.2.2.2.2 isC hC
theorem z_callVi (C : z_C p s m args meth c D tys A cc nL own Ts ret) (isC : List Nat) (ws' : va_W) (As rest : List Value) {y : MethodName} {bytes : ByteArray} {maxL fr lo index n : Nat} {ret' : Option FieldType} {wsy wsy' : List Cond} {wc w1 : va_W} {F : Int} {b ci N : Nat} {T : u_T} {fs : List Value} (hM : z_Mi l y wsy fr lo D tys (.ref b :: As) wc w1 F) (hG : GoodIn Ts (wsV own index y.cls y wsy)) (hw : wsy = Cond.code y bytes maxL ret' :: wsy') (hd : y.cls ≠ "java/lang/invoke/MethodHandle" ∧ y.cls ≠ "java/lang/invoke/VarHandle" ∧ (parseMethodDescriptor y.desc).map (fun d => d.parameters.length) = some n) (hn : As.length = n) (hR : fr + 1 ≤ R.frames ∧ 8 + (maxL + 11) + lo ≤ R.locals) (hrecv : wc[0]? = some (b, .inr (ci, fs))) (hcl : vwCl[ci]? = some (y.cls, T, N)) (hC : isC.map (fun i => ws[i]?) = wc.map some) (hnd : va_nd isC = true) (hadr : wc.map (·.1) = w1.map (·.1)) (hws : z_rep ws isC w1 = ws') (hst : st = As.reverse ++ .ref b :: rest) (hrest : (rest.map fun v => v.category).sum ≤ 8) (hcs : cells ≤ R.cells ∧ slots ≤ R.slots) (hdg : decode cc pc = .ok (.invokevirtual index, 3)) (kk : z_V p l e R s m args below meth c D A nL cells slots Q ws' (pc + 3) lv (.int (z_I F) :: rest)) : z_V p l e R s m args below meth c D A nL cells slots Q ws pc lv st := by
  intro H locs ls hP hD hS h
  have hPc : va_P D vwCl wc H := fun k q hq => by
    obtain ⟨i, -, h2⟩ := z_mapat hC k q hq
    exact hP i q h2
  have hDc := hD.sub isC hnd hC
  have hFc := z_freeA C hD hS hC
  refine va_calli (va_runV (rest := rest) ⟨C.1, C.2.1, C.2.2.1, C.2.2.2.1, C.2.2.2.2.1⟩ (hM H.size) (cwV n C.2.2.2.2.1 hG hw rfl rfl ⟨rfl, hd⟩ hR) ⟨z_blind, va_recv C.2.2.2.2.2.1 hPc hcl hrecv, fun U hU hW => ⟨rfl, by rw [hU], by rw [hU]; exact hPc, va_K.moved hW.alike C.2.2.2.2.2.1, hDc.weaken (fun _ _ _ _ => trivial)⟩⟩ rfl hn h.1 hst (lv_room hrest) hdg hcs) hS (fun q _ h => hFc q h) hFc (fun r u t H1 locs1 ht hvm hr hB hz1 hk1 hS1 => ?_)
  subst hr
  obtain ⟨hP1, hK1, hD1⟩ := hB
  rw [ht] at hP1
  obtain ⟨hP2, hD2⟩ := z_frame hP hD isC hC hadr hk1 hP1
  exact kk H1 locs1 ls (hws ▸ hP2) (hws ▸ hD2) hS1 h
theorem z_callVv (C : z_C p s m args meth c D tys A cc nL own Ts ret) (isC : List Nat) (ws' : va_W) (As rest : List Value) {y : MethodName} {bytes : ByteArray} {maxL fr lo index n : Nat} {ret' : Option FieldType} {wsy wsy' : List Cond} {wc w1 : va_W} {b ci N : Nat} {T : u_T} {fs : List Value} (hM : z_Mv l y wsy fr lo D tys (.ref b :: As) wc w1) (hG : GoodIn Ts (wsV own index y.cls y wsy)) (hw : wsy = Cond.code y bytes maxL ret' :: wsy') (hd : y.cls ≠ "java/lang/invoke/MethodHandle" ∧ y.cls ≠ "java/lang/invoke/VarHandle" ∧ (parseMethodDescriptor y.desc).map (fun d => d.parameters.length) = some n) (hn : As.length = n) (hR : fr + 1 ≤ R.frames ∧ 8 + (maxL + 11) + lo ≤ R.locals) (hrecv : wc[0]? = some (b, .inr (ci, fs))) (hcl : vwCl[ci]? = some (y.cls, T, N)) (hC : isC.map (fun i => ws[i]?) = wc.map some) (hnd : va_nd isC = true) (hadr : wc.map (·.1) = w1.map (·.1)) (hws : z_rep ws isC w1 = ws') (hst : st = As.reverse ++ .ref b :: rest) (hrest : (rest.map fun v => v.category).sum ≤ 8) (hcs : cells ≤ R.cells ∧ slots ≤ R.slots) (hdg : decode cc pc = .ok (.invokevirtual index, 3)) (kk : z_V p l e R s m args below meth c D A nL cells slots Q ws' (pc + 3) lv rest) : z_V p l e R s m args below meth c D A nL cells slots Q ws pc lv st := by
  intro H locs ls hP hD hS h
  have hPc : va_P D vwCl wc H := fun k q hq => by
    obtain ⟨i, -, h2⟩ := z_mapat hC k q hq
    exact hP i q h2
  have hDc := hD.sub isC hnd hC
  have hFc := z_freeA C hD hS hC
  refine va_callv (va_runV (rest := rest) ⟨C.1, C.2.1, C.2.2.1, C.2.2.2.1, C.2.2.2.2.1⟩ (hM H.size) (cwV n C.2.2.2.2.1 hG hw rfl rfl ⟨rfl, hd⟩ hR) ⟨z_blind, va_recv C.2.2.2.2.2.1 hPc hcl hrecv, fun U hU hW => ⟨rfl, by rw [hU], by rw [hU]; exact hPc, va_K.moved hW.alike C.2.2.2.2.2.1, hDc.weaken (fun _ _ _ _ => trivial)⟩⟩ rfl hn h.1 hst (lv_room hrest) hdg hcs) hS (fun q _ h => hFc q h) hFc (fun u t H1 locs1 ht hvm hr hB hz1 hk1 hS1 => ?_)
  obtain ⟨hP1, hK1, hD1⟩ := hB
  rw [ht] at hP1
  obtain ⟨hP2, hD2⟩ := z_frame hP hD isC hC hadr hk1 hP1
  exact kk H1 locs1 ls (hws ▸ hP2) (hws ▸ hD2) hS1 h
theorem z_callSi (C : z_C p s m args meth c D tys A cc nL own Ts ret) (isC : List Nat) (ws' : va_W) (As rest : List Value) {y : MethodName} {bytes : ByteArray} {maxL fr lo index n : Nat} {ret' : Option FieldType} {wsy wsy' : List Cond} {wc w1 : va_W} {F : Int}  (hM : z_Mi l y wsy fr lo D tys As wc w1 F) (hG : GoodIn Ts (va_wsS own index y wsy)) (hw : wsy = Cond.code y bytes maxL ret' :: wsy') (hd : y.cls ≠ "java/lang/invoke/MethodHandle" ∧ y.cls ≠ "java/lang/invoke/VarHandle" ∧ (parseMethodDescriptor y.desc).map (fun d => d.parameters.length) = some n) (hn : As.length = n) (hR : fr + 1 ≤ R.frames ∧ 8 + (maxL + 11) + lo ≤ R.locals) (hC : isC.map (fun i => ws[i]?) = wc.map some) (hnd : va_nd isC = true) (hadr : wc.map (·.1) = w1.map (·.1)) (hws : z_rep ws isC w1 = ws') (hst : st = As.reverse ++ rest) (hrest : (rest.map fun v => v.category).sum ≤ 8) (hcs : cells ≤ R.cells ∧ slots ≤ R.slots) (hdg : decode cc pc = .ok (.invokestatic index, 3)) (kk : z_V p l e R s m args below meth c D A nL cells slots Q ws' (pc + 3) lv (.int (z_I F) :: rest)) : z_V p l e R s m args below meth c D A nL cells slots Q ws pc lv st := by
  intro H locs ls hP hD hS h
  have hPc : va_P D vwCl wc H := fun k q hq => by
    obtain ⟨i, -, h2⟩ := z_mapat hC k q hq
    exact hP i q h2
  have hDc := hD.sub isC hnd hC
  have hFc := z_freeA C hD hS hC
  refine va_calli (va_runS (rest := rest) ⟨C.1, C.2.1, C.2.2.1, C.2.2.2.1, C.2.2.2.2.1⟩ (hM H.size) (va_cwS n C.2.2.2.2.1 hG hw rfl rfl hd hR) ⟨z_blind, fun U hU hW => ⟨rfl, by rw [hU], by rw [hU]; exact hPc, va_K.moved hW.alike C.2.2.2.2.2.1, hDc.weaken (fun _ _ _ _ => trivial)⟩⟩ rfl hn h.1 hst (lv_room hrest) hdg hcs) hS (fun q _ h => hFc q h) hFc (fun r u t H1 locs1 ht hvm hr hB hz1 hk1 hS1 => ?_)
  subst hr
  obtain ⟨hP1, hK1, hD1⟩ := hB
  rw [ht] at hP1
  obtain ⟨hP2, hD2⟩ := z_frame hP hD isC hC hadr hk1 hP1
  exact kk H1 locs1 ls (hws ▸ hP2) (hws ▸ hD2) hS1 h
theorem z_callSv (C : z_C p s m args meth c D tys A cc nL own Ts ret) (isC : List Nat) (ws' : va_W) (As rest : List Value) {y : MethodName} {bytes : ByteArray} {maxL fr lo index n : Nat} {ret' : Option FieldType} {wsy wsy' : List Cond} {wc w1 : va_W}  (hM : z_Mv l y wsy fr lo D tys As wc w1) (hG : GoodIn Ts (va_wsS own index y wsy)) (hw : wsy = Cond.code y bytes maxL ret' :: wsy') (hd : y.cls ≠ "java/lang/invoke/MethodHandle" ∧ y.cls ≠ "java/lang/invoke/VarHandle" ∧ (parseMethodDescriptor y.desc).map (fun d => d.parameters.length) = some n) (hn : As.length = n) (hR : fr + 1 ≤ R.frames ∧ 8 + (maxL + 11) + lo ≤ R.locals) (hC : isC.map (fun i => ws[i]?) = wc.map some) (hnd : va_nd isC = true) (hadr : wc.map (·.1) = w1.map (·.1)) (hws : z_rep ws isC w1 = ws') (hst : st = As.reverse ++ rest) (hrest : (rest.map fun v => v.category).sum ≤ 8) (hcs : cells ≤ R.cells ∧ slots ≤ R.slots) (hdg : decode cc pc = .ok (.invokestatic index, 3)) (kk : z_V p l e R s m args below meth c D A nL cells slots Q ws' (pc + 3) lv rest) : z_V p l e R s m args below meth c D A nL cells slots Q ws pc lv st := by
  intro H locs ls hP hD hS h
  have hPc : va_P D vwCl wc H := fun k q hq => by
    obtain ⟨i, -, h2⟩ := z_mapat hC k q hq
    exact hP i q h2
  have hDc := hD.sub isC hnd hC
  have hFc := z_freeA C hD hS hC
  refine va_callv (va_runS (rest := rest) ⟨C.1, C.2.1, C.2.2.1, C.2.2.2.1, C.2.2.2.2.1⟩ (hM H.size) (va_cwS n C.2.2.2.2.1 hG hw rfl rfl hd hR) ⟨z_blind, fun U hU hW => ⟨rfl, by rw [hU], by rw [hU]; exact hPc, va_K.moved hW.alike C.2.2.2.2.2.1, hDc.weaken (fun _ _ _ _ => trivial)⟩⟩ rfl hn h.1 hst (lv_room hrest) hdg hcs) hS (fun q _ h => hFc q h) hFc (fun u t H1 locs1 ht hvm hr hB hz1 hk1 hS1 => ?_)
  obtain ⟨hP1, hK1, hD1⟩ := hB
  rw [ht] at hP1
  obtain ⟨hP2, hD2⟩ := z_frame hP hD isC hC hadr hk1 hP1
  exact kk H1 locs1 ls (hws ▸ hP2) (hws ▸ hD2) hS1 h
end ZC
abbrev z_T (cI cZ cO : ClassId) : List (ClassId × FieldType) := [(cI, .int), (cZ, .boolean), (cO, .object "RippleCounts$Counter")]
section ZW
variable {p : Program} {l : Launch} {e : Env} {R : Room} {s : State} {m : MethodId} {args : Array Value} {below : List Frame} {meth : Method} {c : Code} {D : va_G} {A : Nat → Prop} {nL cells slots : Nat} {Q : State → Prop} {ws : va_W} {pc : Nat} {lv : List (Nat × Value)} {st : List Value}
theorem z_ws (ws' : va_W) (h : ws = ws') (kk : z_V p l e R s m args below meth c D A nL cells slots Q ws' pc lv st) : z_V p l e R s m args below meth c D A nL cells slots Q ws pc lv st := h ▸ kk
theorem z_lsub (lv' : List (Nat × Value)) (ks : List Nat) (h : lv_pick lv ks = lv') (kk : z_V p l e R s m args below meth c D A nL cells slots Q ws pc lv' st) : z_V p l e R s m args below meth c D A nL cells slots Q ws pc lv st := fun H locs ls hP hD hS hl => kk H locs ls hP hD hS (lv_sub hl ks h)
theorem z_lveq (lv' : List (Nat × Value)) (h : lv = lv') (kk : z_V p l e R s m args below meth c D A nL cells slots Q ws pc lv' st) : z_V p l e R s m args below meth c D A nL cells slots Q ws pc lv st := h ▸ kk
theorem z_steq (st' : List Value) (h : st = st') (kk : z_V p l e R s m args below meth c D A nL cells slots Q ws pc lv st') : z_V p l e R s m args below meth c D A nL cells slots Q ws pc lv st := h ▸ kk
end ZW
theorem z_off1 {x d : Int} {a0 o0 : Int} (h0 : ¬ x = a0) : Op.lookupswitch.offset (#[(a0, o0)] : Array (Int × Int)).toList d x = d := by
  show Op.lookupswitch.offset [(a0, o0)] d x = d
  rw [Op.lookupswitch.offset_cons, if_neg (fun q => h0 q.symm)]
  rfl
theorem z_off2 {x d : Int} {a0 o0 : Int} {a1 o1 : Int} (h0 : ¬ x = a0) (h1 : ¬ x = a1) : Op.lookupswitch.offset (#[(a0, o0), (a1, o1)] : Array (Int × Int)).toList d x = d := by
  show Op.lookupswitch.offset [(a0, o0), (a1, o1)] d x = d
  rw [Op.lookupswitch.offset_cons, if_neg (fun q => h0 q.symm), Op.lookupswitch.offset_cons, if_neg (fun q => h1 q.symm)]
  rfl
theorem z_off3 {x d : Int} {a0 o0 : Int} {a1 o1 : Int} {a2 o2 : Int} (h0 : ¬ x = a0) (h1 : ¬ x = a1) (h2 : ¬ x = a2) : Op.lookupswitch.offset (#[(a0, o0), (a1, o1), (a2, o2)] : Array (Int × Int)).toList d x = d := by
  show Op.lookupswitch.offset [(a0, o0), (a1, o1), (a2, o2)] d x = d
  rw [Op.lookupswitch.offset_cons, if_neg (fun q => h0 q.symm), Op.lookupswitch.offset_cons, if_neg (fun q => h1 q.symm), Op.lookupswitch.offset_cons, if_neg (fun q => h2 q.symm)]
  rfl
theorem z_off4 {x d : Int} {a0 o0 : Int} {a1 o1 : Int} {a2 o2 : Int} {a3 o3 : Int} (h0 : ¬ x = a0) (h1 : ¬ x = a1) (h2 : ¬ x = a2) (h3 : ¬ x = a3) : Op.lookupswitch.offset (#[(a0, o0), (a1, o1), (a2, o2), (a3, o3)] : Array (Int × Int)).toList d x = d := by
  show Op.lookupswitch.offset [(a0, o0), (a1, o1), (a2, o2), (a3, o3)] d x = d
  rw [Op.lookupswitch.offset_cons, if_neg (fun q => h0 q.symm), Op.lookupswitch.offset_cons, if_neg (fun q => h1 q.symm), Op.lookupswitch.offset_cons, if_neg (fun q => h2 q.symm), Op.lookupswitch.offset_cons, if_neg (fun q => h3 q.symm)]
  rfl
theorem z_off5 {x d : Int} {a0 o0 : Int} {a1 o1 : Int} {a2 o2 : Int} {a3 o3 : Int} {a4 o4 : Int} (h0 : ¬ x = a0) (h1 : ¬ x = a1) (h2 : ¬ x = a2) (h3 : ¬ x = a3) (h4 : ¬ x = a4) : Op.lookupswitch.offset (#[(a0, o0), (a1, o1), (a2, o2), (a3, o3), (a4, o4)] : Array (Int × Int)).toList d x = d := by
  show Op.lookupswitch.offset [(a0, o0), (a1, o1), (a2, o2), (a3, o3), (a4, o4)] d x = d
  rw [Op.lookupswitch.offset_cons, if_neg (fun q => h0 q.symm), Op.lookupswitch.offset_cons, if_neg (fun q => h1 q.symm), Op.lookupswitch.offset_cons, if_neg (fun q => h2 q.symm), Op.lookupswitch.offset_cons, if_neg (fun q => h3 q.symm), Op.lookupswitch.offset_cons, if_neg (fun q => h4 q.symm)]
  rfl
theorem z_off6 {x d : Int} {a0 o0 : Int} {a1 o1 : Int} {a2 o2 : Int} {a3 o3 : Int} {a4 o4 : Int} {a5 o5 : Int} (h0 : ¬ x = a0) (h1 : ¬ x = a1) (h2 : ¬ x = a2) (h3 : ¬ x = a3) (h4 : ¬ x = a4) (h5 : ¬ x = a5) : Op.lookupswitch.offset (#[(a0, o0), (a1, o1), (a2, o2), (a3, o3), (a4, o4), (a5, o5)] : Array (Int × Int)).toList d x = d := by
  show Op.lookupswitch.offset [(a0, o0), (a1, o1), (a2, o2), (a3, o3), (a4, o4), (a5, o5)] d x = d
  rw [Op.lookupswitch.offset_cons, if_neg (fun q => h0 q.symm), Op.lookupswitch.offset_cons, if_neg (fun q => h1 q.symm), Op.lookupswitch.offset_cons, if_neg (fun q => h2 q.symm), Op.lookupswitch.offset_cons, if_neg (fun q => h3 q.symm), Op.lookupswitch.offset_cons, if_neg (fun q => h4 q.symm), Op.lookupswitch.offset_cons, if_neg (fun q => h5 q.symm)]
  rfl
