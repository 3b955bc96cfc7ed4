/-! ===== contracts with a state that is only known by what holds of it ===== -/
def z_Ei (S : Type) (l : Launch) (y : MethodName) (wsy : List Cond) (fr lo : Nat) (D : va_G) (tys : List (ClassId × FieldType)) (As : List Value) (wc : va_W) (w1 : S → va_W) (post : Int → S → Prop) : Prop :=
  ∀ sz : Nat, Met l y wsy { frames := fr, cells := 0, slots := 0, locals := lo } (va_Pc As (z_PRE D tys wc sz)) (va_Qi (S := S) (fun r u => ∃ i : Int, r = z_I i ∧ post i u) (fun u => z_B D tys (va_A wc sz) (w1 u)) (va_A wc sz)) 0 0 (va_A wc sz)
def z_Ev (S : Type) (l : Launch) (y : MethodName) (wsy : List Cond) (fr lo : Nat) (D : va_G) (tys : List (ClassId × FieldType)) (As : List Value) (wc : va_W) (w1 : S → va_W) (post : S → Prop) : Prop :=
  ∀ sz : Nat, Met l y wsy { frames := fr, cells := 0, slots := 0, locals := lo } (va_Pc As (z_PRE D tys wc sz)) (va_Qv (S := S) post (fun u => z_B D tys (va_A wc sz) (w1 u)) (va_A wc sz)) 0 0 (va_A wc sz)
def z_QEi (S : Type) (D : va_G) (tys : List (ClassId × FieldType)) (A : Nat → Prop) (args : Array Value) (s : State) (below : List Frame) (w1 : S → va_W) (post : Int → S → Prop) : State → Prop := MQ below (va_Qi (S := S) (fun r u => ∃ i : Int, r = z_I i ∧ post i u) (fun u => z_B D tys A (w1 u)) A) args s 0 0 A
def z_QEv (S : Type) (D : va_G) (tys : List (ClassId × FieldType)) (A : Nat → Prop) (args : Array Value) (s : State) (below : List Frame) (w1 : S → va_W) (post : S → Prop) : State → Prop := MQ below (va_Qv (S := S) post (fun u => z_B D tys A (w1 u)) A) args s 0 0 A
theorem z_Ei_of {S : Type} {l : Launch} {y : MethodName} {wsy wsy' : List Cond} {cc : ByteArray} {nL fr lo : Nat} {ret : Option FieldType} {D : va_G} {tys : List (ClassId × FieldType)} {As : List Value} {wc : va_W} {w1 : S → va_W} {post : Int → S → Prop} (hy : plainName y.cls = true) (hw : wsy = Cond.code y cc nL ret :: wsy') (hnL : (lg_sl As).length ≤ nL)
    (body : ∀ (p : Program) (e : Env) (s : State) (m : MethodId) (args : Array Value) (below : List Frame) (meth : Method) (c : Code) (A : Nat → Prop) (Q : State → Prop), z_C p s m args meth c D tys A cc nL y.cls wsy ret → Q = z_QEi S D tys A args s below w1 post → z_V p l e { frames := fr, cells := 0, slots := 0, locals := lo } s m args below meth c D A nL 0 0 Q wc 0 (lv_args 0 As) []) : z_Ei S l y wsy fr lo D tys As wc w1 post := by
  intro sz
  refine Met.ofW hy hw ?_
  intro p e s m args below meth c s₁ B hml hv
  obtain ⟨rfl, hsz, hP, hK, hD0⟩ := hv
  subst hsz
  have hts := atoms_spec (ws := wsy) B.pre
  have hl := lv_entry As (n := nL) hnL
  rw [lg_entry_eq]
  exact body p e s m _ below meth c (va_A wc s.heap.size) _ ⟨B.exec, B.bytes, hml, findClass_of_methodNamed B.named, hts, hK, B.returns, B.notSynchronized, fun q h => Or.inr h⟩ rfl s.heap [] _ hP hD0.self va_S.rf hl
theorem z_Ev_of {S : Type} {l : Launch} {y : MethodName} {wsy wsy' : List Cond} {cc : ByteArray} {nL fr lo : Nat} {ret : Option FieldType} {D : va_G} {tys : List (ClassId × FieldType)} {As : List Value} {wc : va_W} {w1 : S → va_W} {post : S → Prop} (hy : plainName y.cls = true) (hw : wsy = Cond.code y cc nL ret :: wsy') (hnL : (lg_sl As).length ≤ nL)
    (body : ∀ (p : Program) (e : Env) (s : State) (m : MethodId) (args : Array Value) (below : List Frame) (meth : Method) (c : Code) (A : Nat → Prop) (Q : State → Prop), z_C p s m args meth c D tys A cc nL y.cls wsy ret → Q = z_QEv S D tys A args s below w1 post → z_V p l e { frames := fr, cells := 0, slots := 0, locals := lo } s m args below meth c D A nL 0 0 Q wc 0 (lv_args 0 As) []) : z_Ev S l y wsy fr lo D tys As wc w1 post := by
  intro sz
  refine Met.ofW hy hw ?_
  intro p e s m args below meth c s₁ B hml hv
  obtain ⟨rfl, hsz, hP, hK, hD0⟩ := hv
  subst hsz
  have hts := atoms_spec (ws := wsy) B.pre
  have hl := lv_entry As (n := nL) hnL
  rw [lg_entry_eq]
  exact body p e s m _ below meth c (va_A wc s.heap.size) _ ⟨B.exec, B.bytes, hml, findClass_of_methodNamed B.named, hts, hK, B.returns, B.notSynchronized, fun q h => Or.inr h⟩ rfl s.heap [] _ hP hD0.self va_S.rf hl
section ZE
variable {p : Program} {l : Launch} {e : Env} {R : Room} {s : State} {m : MethodId} {args : Array Value} {below : List Frame} {meth : Method} {c : Code} {D : va_G} {tys : List (ClassId × FieldType)} {A : Nat → Prop} {cc : ByteArray} {nL cells slots : Nat} {own : String} {Ts : List Cond} {ret : Option FieldType} {Q : State → Prop} {ws : va_W} {pc : Nat} {lv : List (Nat × Value)} {st : List Value}
theorem z_irete {S : Type} (C : z_C p s m args meth c D tys A cc nL own Ts (some .int)) {w1 : S → va_W} {post : Int → S → Prop} {r : Int} (hQ : Q = z_QEi S D tys A args s below w1 post) (u : S) (hws : ws = w1 u) (hF : post r u) (hdg : decode cc pc = .ok (.ireturn, 1)) : z_V p l e R s m args below meth c D A nL 0 0 Q ws pc lv [.int (z_I r)] := by
  intro H locs ls hP hD hS h
  subst hQ; subst hws
  have hlocks := C.2.2.2.2.2.2.2.1
  exact W.iret C.1 C.2.1 C.2.2.2.2.2.2.1 (fun t ht hW => ⟨⟨_, u, rfl, ⟨r, rfl, hF⟩, by rw [ht]; exact hP, va_K.moved hW.alike C.2.2.2.2.2.1, hD⟩, hS.F ht⟩) hS.2.2 hdg hlocks
theorem z_vrete {S : Type} (C : z_C p s m args meth c D tys A cc nL own Ts none) {w1 : S → va_W} {post : S → Prop} (hQ : Q = z_QEv S D tys A args s below w1 post) (u : S) (hws : ws = w1 u) (hF : post u) (hdg : decode cc pc = .ok (.return_, 1)) : z_V p l e R s m args below meth c D A nL 0 0 Q ws pc lv [] := by
  intro H locs ls hP hD hS h
  subst hQ; subst hws
  have hlocks := C.2.2.2.2.2.2.2.1
  exact W.vret C.1 C.2.1 C.2.2.2.2.2.2.1 (fun t ht hW => ⟨⟨u, rfl, hF, by rw [ht]; exact hP, va_K.moved hW.alike C.2.2.2.2.2.1, hD⟩, hS.F ht⟩) hS.2.2 hdg hlocks
theorem z_callEi {S : Type} (C : z_C p s m args meth c D tys A cc nL own Ts ret) (isC : List Nat) (ws' : S → va_W) (As rest : List Value) {y : MethodName} {bytes : ByteArray} {maxL fr lo index n : Nat} {ret' : Option FieldType} {wsy wsy' : List Cond} {wc : va_W} {w1 : S → va_W} {post : Int → S → Prop} {b ci N : Nat} {T : u_T} {fs : List Value} (hM : z_Ei S l y wsy fr lo D tys (.ref b :: As) wc w1 post) (hG : GoodIn Ts (wsV own index y.cls y wsy)) (hw : wsy = Cond.code y bytes maxL ret' :: wsy') (hd : y.cls ≠ "java/lang/invoke/MethodHandle" ∧ y.cls ≠ "java/lang/invoke/VarHandle" ∧ (parseMethodDescriptor y.desc).map (fun d => d.parameters.length) = some n) (hn : As.length = n) (hR : fr + 1 ≤ R.frames ∧ 8 + (maxL + 11) + lo ≤ R.locals) (hrecv : wc[0]? = some (b, .inr (ci, fs))) (hcl : vwCl[ci]? = some (y.cls, T, N)) (hC : isC.map (fun i => ws[i]?) = wc.map some) (hnd : va_nd isC = true) (hadr : ∀ u, wc.map (·.1) = (w1 u).map (·.1)) (hws : ∀ u, z_rep ws isC (w1 u) = ws' u) (hst : st = As.reverse ++ .ref b :: rest) (hrest : (rest.map fun v => v.category).sum ≤ 8) (hcs : cells ≤ R.cells ∧ slots ≤ R.slots) (hdg : decode cc pc = .ok (.invokevirtual index, 3)) (kk : ∀ (u : S) (i : Int), post i u → z_V p l e R s m args below meth c D A nL cells slots Q (ws' u) (pc + 3) lv (.int (z_I i) :: rest)) : z_V p l e R s m args below meth c D A nL cells slots Q ws pc lv st := by
  intro H locs ls hP hD hS h
  have hPc : va_P D vwCl wc H := fun k q hq => by
    obtain ⟨i, -, h2⟩ := z_mapat hC k q hq
    exact hP i q h2
  have hDc := hD.sub isC hnd hC
  have hFc := z_freeA C hD hS hC
  refine va_calli (va_runV (rest := rest) ⟨C.1, C.2.1, C.2.2.1, C.2.2.2.1, C.2.2.2.2.1⟩ (hM H.size) (cwV n C.2.2.2.2.1 hG hw rfl rfl ⟨rfl, hd⟩ hR) ⟨z_blind, va_recv C.2.2.2.2.2.1 hPc hcl hrecv, fun U hU hW => ⟨rfl, by rw [hU], by rw [hU]; exact hPc, va_K.moved hW.alike C.2.2.2.2.2.1, hDc.weaken (fun _ _ _ _ => trivial)⟩⟩ rfl hn h.1 hst (lv_room hrest) hdg hcs) hS (fun q _ h => hFc q h) hFc (fun r u t H1 locs1 ht hvm hr hB hz1 hk1 hS1 => ?_)
  obtain ⟨i, rfl, hpo⟩ := hr
  obtain ⟨hP1, hK1, hD1⟩ := hB
  rw [ht] at hP1
  obtain ⟨hP2, hD2⟩ := z_frame hP hD isC hC (hadr u) hk1 hP1
  exact kk u i hpo H1 locs1 ls (hws u ▸ hP2) (hws u ▸ hD2) hS1 h
theorem z_callEv {S : Type} (C : z_C p s m args meth c D tys A cc nL own Ts ret) (isC : List Nat) (ws' : S → va_W) (As rest : List Value) {y : MethodName} {bytes : ByteArray} {maxL fr lo index n : Nat} {ret' : Option FieldType} {wsy wsy' : List Cond} {wc : va_W} {w1 : S → va_W} {post : S → Prop} {b ci N : Nat} {T : u_T} {fs : List Value} (hM : z_Ev S l y wsy fr lo D tys (.ref b :: As) wc w1 post) (hG : GoodIn Ts (wsV own index y.cls y wsy)) (hw : wsy = Cond.code y bytes maxL ret' :: wsy') (hd : y.cls ≠ "java/lang/invoke/MethodHandle" ∧ y.cls ≠ "java/lang/invoke/VarHandle" ∧ (parseMethodDescriptor y.desc).map (fun d => d.parameters.length) = some n) (hn : As.length = n) (hR : fr + 1 ≤ R.frames ∧ 8 + (maxL + 11) + lo ≤ R.locals) (hrecv : wc[0]? = some (b, .inr (ci, fs))) (hcl : vwCl[ci]? = some (y.cls, T, N)) (hC : isC.map (fun i => ws[i]?) = wc.map some) (hnd : va_nd isC = true) (hadr : ∀ u, wc.map (·.1) = (w1 u).map (·.1)) (hws : ∀ u, z_rep ws isC (w1 u) = ws' u) (hst : st = As.reverse ++ .ref b :: rest) (hrest : (rest.map fun v => v.category).sum ≤ 8) (hcs : cells ≤ R.cells ∧ slots ≤ R.slots) (hdg : decode cc pc = .ok (.invokevirtual index, 3)) (kk : ∀ u : S, post u → z_V p l e R s m args below meth c D A nL cells slots Q (ws' u) (pc + 3) lv rest) : z_V p l e R s m args below meth c D A nL cells slots Q ws pc lv st := by
  intro H locs ls hP hD hS h
  have hPc : va_P D vwCl wc H := fun k q hq => by
    obtain ⟨i, -, h2⟩ := z_mapat hC k q hq
    exact hP i q h2
  have hDc := hD.sub isC hnd hC
  have hFc := z_freeA C hD hS hC
  refine va_callv (va_runV (rest := rest) ⟨C.1, C.2.1, C.2.2.1, C.2.2.2.1, C.2.2.2.2.1⟩ (hM H.size) (cwV n C.2.2.2.2.1 hG hw rfl rfl ⟨rfl, hd⟩ hR) ⟨z_blind, va_recv C.2.2.2.2.2.1 hPc hcl hrecv, fun U hU hW => ⟨rfl, by rw [hU], by rw [hU]; exact hPc, va_K.moved hW.alike C.2.2.2.2.2.1, hDc.weaken (fun _ _ _ _ => trivial)⟩⟩ rfl hn h.1 hst (lv_room hrest) hdg hcs) hS (fun q _ h => hFc q h) hFc (fun u t H1 locs1 ht hvm hr hB hz1 hk1 hS1 => ?_)
  obtain ⟨hP1, hK1, hD1⟩ := hB
  rw [ht] at hP1
  obtain ⟨hP2, hD2⟩ := z_frame hP hD isC hC (hadr u) hk1 hP1
  exact kk u hr H1 locs1 ls (hws u ▸ hP2) (hws u ▸ hD2) hS1 h
end ZE
