/-! ===== the words of the history ===== -/
def z_rw (L : List Nat) : Nat → Option Nat := fun k => L[k]?
def z_uc (f : Int → z_Ct) (i : Int) (v : z_Ct) : Int → z_Ct := fun j => if j = i then v else f j
def z_stK (k kp : Int) : Int := if k < 0 then kp else if kp < 6 then kp + 1 else kp
def z_stO (k kp od : Int) : Int := if k < 0 then od else if kp < 6 then od else (od + 1) % 7
section ZH
variable {p : Program} {l : Launch} {e : Env} {R : Room} {s : State} {m : MethodId} {args : Array Value} {below : List Frame} {meth : Method} {c : Code} {D : va_G} {tys : List (ClassId × FieldType)} {A : Nat → Prop} {cc : ByteArray} {nL cells slots : Nat} {own : String} {Ts : List Cond} {ret : Option FieldType} {Q : State → Prop} {ws : va_W} {pc : Nat} {lv : List (Nat × Value)} {st : List Value}
theorem z_aald (C : z_C p s m args meth c D tys A cc nL own Ts ret) (q0 t0 v : Nat) {a n q : Nat} {cA : ClassId} {Cn : String} {f : Nat → Option Nat} {i : Int} (ha : ws[q0]? = some (a, .inl (cA, n, .inr (.inr (.inr (.inr f)))))) (ht : tys[t0]? = some (cA, .object Cn)) (hi : i = (v : Int)) (hv : v < n ∧ n < 2147483648) (hf : f v = some q) (hdg : decode cc pc = .ok (.aaload, 1)) (kk : z_V p l e R s m args below meth c D A nL cells slots Q ws (pc + 1) lv (.ref q :: st)) : z_V p l e R s m args below meth c D A nL cells slots Q ws pc lv (.int (z_I i) :: .ref a :: st) := by
  intro H locs ls hP hD hS h
  subst hi
  have e1 : (z_I (v : Int)).toNatClampNeg = v := by
    show (z_I (v : Int)).toInt.toNat = v
    rw [z_I_toInt (by omega)]
    omega
  refine va_aldq C.1 C.2.1 C.2.2.2.2.2.1 hP q0 t0 ha ht (z_in (by omega) (by omega) hv.2) hdg ?_
  rw [e1, hf]
  exact kk H locs ls hP hD hS h
end ZH
/-! ===== worlds by blocks: a counter's fifteen cells as one ===== -/
def z_ctc (cI cZ : ClassId) (hC hW aD aN aU hR aR1 aR2 aR3 aR4 hS aS1 aS2 aS3 aS4 : Nat) (ct : z_Ct) : va_W := [(hC, .inr (0, [.ref hW, .ref hR, .ref hS, .int (z_I ct.2.2.2.1), .int (z_I ct.2.2.2.2.1), .int (z_I ct.2.2.2.2.2.1), .int (z_I ct.2.2.2.2.2.2.1), .int (z_I ct.2.2.2.2.2.2.2)])), (hW, .inr (5, [.int (z_I ct.1.1), .int (z_I ct.1.2.1), .int (z_I ct.1.2.2.1), .int (z_I ct.1.2.2.2.1), .ref aD, .ref aN, .ref aU])), (aD, z_ai cI 5 ct.1.2.2.2.2.1), (aN, z_ai cI 5 ct.1.2.2.2.2.2.1), (aU, z_ai cI 105 ct.1.2.2.2.2.2.2), (hR, .inr (3, [.int (z_I ct.2.1.1), .ref aR1, .ref aR2, .ref aR3, .ref aR4])), (aR1, z_ai cI 99 ct.2.1.2.1), (aR2, z_ai cI 99 ct.2.1.2.2.1), (aR3, z_ai cI 99 ct.2.1.2.2.2.1), (aR4, z_ai cI 99 ct.2.1.2.2.2.2), (hS, .inr (4, [.int (z_I ct.2.2.1.1), .ref aS1, .ref aS2, .ref aS3, .ref aS4])), (aS1, z_ai cI 32 ct.2.2.1.2.1), (aS2, z_ai cI 32 ct.2.2.1.2.2.1), (aS3, z_ai cI 32 ct.2.2.1.2.2.2.1), (aS4, z_ai cI 32 ct.2.2.1.2.2.2.2)]
def z_repB : List va_W → List Nat → List va_W → List va_W
  | ws, i :: is, e :: es => z_repB (ws.set i e) is es
  | ws, _, _ => ws
theorem z_repB_at : ∀ (is : List Nat) (es ws : List va_W), is.length = es.length → ∀ (k : Nat) (q : va_W), (z_repB ws is es)[k]? = some q → q ∈ es ∨ (ws[k]? = some q ∧ k ∉ is)
  | [], [], ws, _, k, q, h => Or.inr ⟨h, List.not_mem_nil⟩
  | i :: is, e :: es, ws, hl, k, q, h => by
    have h1 : (z_repB (ws.set i e) is es)[k]? = some q := h
    rcases z_repB_at is es (ws.set i e) (by simpa using hl) k q h1 with h2 | ⟨h2, h3⟩
    · exact Or.inl (List.mem_cons_of_mem _ h2)
    · by_cases hk : k = i
      · subst hk
        left
        rw [List.getElem?_set] at h2
        split at h2
        · split at h2
          · cases h2; exact List.mem_cons_self
          · cases h2
        · rename_i hx; exact absurd rfl hx
      · rw [List.getElem?_set_ne (Ne.symm hk)] at h2
        exact Or.inr ⟨h2, fun hm => (List.mem_cons.mp hm).elim hk h3⟩
abbrev z_ad (w : va_W) : List Nat := w.map (·.1)
theorem z_setB_adr {ws : List va_W} {i : Nat} {e : va_W} (h : (ws[i]?).map z_ad = some (z_ad e)) : (ws.set i e).map z_ad = ws.map z_ad := by
  apply List.ext_getElem?
  intro k
  rw [List.getElem?_map, List.getElem?_map, List.getElem?_set]
  by_cases hk : i = k
  · subst hk
    rw [if_pos rfl]
    cases hw : ws[i]? with
    | none => rw [hw] at h; cases h
    | some x =>
      have hl := (List.getElem?_eq_some_iff.mp hw).1
      rw [if_pos hl]
      rw [hw] at h
      exact h.symm
  · rw [if_neg hk]
theorem z_repB_adr : ∀ (is : List Nat) (es ws : List va_W), is.map (fun i => (ws[i]?).map z_ad) = es.map (fun e => some (z_ad e)) → (z_repB ws is es).map z_ad = ws.map z_ad
  | [], [], ws, _ => rfl
  | [], _ :: _, ws, h => by simp at h
  | _ :: _, [], ws, h => by simp at h
  | i :: is, e :: es, ws, h => by
    simp only [List.map_cons, List.cons.injEq] at h
    have hs := z_setB_adr h.1
    show (z_repB (ws.set i e) is es).map z_ad = _
    rw [z_repB_adr is es (ws.set i e) ?_, hs]
    rw [← h.2]
    refine List.map_congr_left (fun j _ => ?_)
    have h2 : ((ws.set i e).map z_ad)[j]? = (ws.map z_ad)[j]? := by rw [hs]
    rw [List.getElem?_map, List.getElem?_map] at h2
    exact h2
theorem z_flat_adr {a b : List va_W} (h : a.map z_ad = b.map z_ad) : a.flatten.map (·.1) = b.flatten.map (·.1) := by
  rw [List.map_flatten, List.map_flatten]
  exact congrArg List.flatten h
theorem z_D_nodup {A : Nat → Prop} {ws : va_W} (h : va_D A ws) : (ws.map (·.1)).Pairwise (· ≠ ·) := by
  rw [List.pairwise_iff_getElem]
  intro i j hi hj hij e
  rw [List.length_map] at hi hj
  rw [List.getElem_map, List.getElem_map] at e
  have := h.1 i j _ _ (List.getElem?_eq_getElem hi) (List.getElem?_eq_getElem hj) e
  omega
/-- two different blocks have no address in common -/
theorem z_B_apart {A : Nat → Prop} {BS : List va_W} (hD : va_D A BS.flatten) {i j : Nat} {x y : va_W} (hi : BS[i]? = some x) (hj : BS[j]? = some y) (hij : i ≠ j) {p q : Nat × va_E} (hp : p ∈ x) (hq : q ∈ y) : p.1 ≠ q.1 := by
  have h1 := z_D_nodup hD
  rw [List.map_flatten, List.pairwise_flatten] at h1
  have h2 := List.pairwise_iff_getElem.mp h1.2
  obtain ⟨li, ei⟩ := List.getElem?_eq_some_iff.mp hi
  obtain ⟨lj, ej⟩ := List.getElem?_eq_some_iff.mp hj
  rcases Nat.lt_or_gt_of_ne hij with h | h
  · have h3 := h2 i j (by rw [List.length_map]; exact li) (by rw [List.length_map]; exact lj) h
    rw [List.getElem_map, List.getElem_map, ei, ej] at h3
    exact h3 p.1 (List.mem_map.mpr ⟨p, hp, rfl⟩) q.1 (List.mem_map.mpr ⟨q, hq, rfl⟩)
  · have h3 := h2 j i (by rw [List.length_map]; exact lj) (by rw [List.length_map]; exact li) h
    rw [List.getElem_map, List.getElem_map, ei, ej] at h3
    exact fun e => h3 q.1 (List.mem_map.mpr ⟨q, hq, rfl⟩) p.1 (List.mem_map.mpr ⟨p, hp, rfl⟩) e.symm
theorem z_mapatB {BS CB : List va_W} {isC : List Nat} (hC : isC.map (fun i => BS[i]?) = CB.map some) {x : va_W} (hx : x ∈ CB) : ∃ i, i ∈ isC ∧ BS[i]? = some x := by
  have h1 : some x ∈ CB.map some := List.mem_map.mpr ⟨x, hx, rfl⟩
  rw [← hC] at h1
  obtain ⟨i, h2, h3⟩ := List.mem_map.mp h1
  exact ⟨i, h2, h3⟩
theorem z_P_mem {D : va_G} {cl : List vw_C} {ws : va_W} {H : Heap} : va_P D cl ws H ↔ ∀ q ∈ ws, va_at D cl q H := by
  constructor
  · intro h q hq
    obtain ⟨k, hk⟩ := List.getElem?_of_mem hq
    exact h k q hk
  · intro h k q hk
    exact h q (List.mem_of_getElem? hk)
theorem z_subB {D : va_G} {cl : List vw_C} {BS CB : List va_W} {isC : List Nat} {H : Heap} (hP : va_P D cl BS.flatten H) (hC : isC.map (fun i => BS[i]?) = CB.map some) : va_P D cl CB.flatten H := by
  rw [z_P_mem] at hP ⊢
  intro q hq
  obtain ⟨x, hx, hqx⟩ := List.mem_flatten.mp hq
  obtain ⟨i, -, h2⟩ := z_mapatB hC hx
  exact hP q (List.mem_flatten.mpr ⟨x, List.mem_of_getElem? h2, hqx⟩)
theorem z_subDB {A : Nat → Prop} {BS CB : List va_W} {isC : List Nat} (hD : va_D A BS.flatten) (hC : isC.map (fun i => BS[i]?) = CB.map some) (hn : va_nd isC = true) : va_D A CB.flatten := by
  have hat : ∀ (k : Nat) (x : va_W), CB[k]? = some x → ∃ i, isC[k]? = some i ∧ BS[i]? = some x := by
    intro k x hk
    have h1 : (isC.map (fun i => BS[i]?))[k]? = some (some x) := by rw [hC, List.getElem?_map, hk]; rfl
    rw [List.getElem?_map] at h1
    cases hi : isC[k]? with
    | none => rw [hi] at h1; cases h1
    | some i => rw [hi] at h1; exact ⟨i, rfl, Option.some.inj h1⟩
  have h1 := z_D_nodup hD
  rw [List.map_flatten, List.pairwise_flatten] at h1
  have h2 : (CB.flatten.map (·.1)).Pairwise (· ≠ ·) := by
    rw [List.map_flatten, List.pairwise_flatten]
    refine ⟨fun l hl => ?_, ?_⟩
    · obtain ⟨x, hx, rfl⟩ := List.mem_map.mp hl
      obtain ⟨i, -, h3⟩ := z_mapatB hC hx
      exact h1.1 _ (List.mem_map.mpr ⟨x, List.mem_of_getElem? h3, rfl⟩)
    · rw [List.pairwise_iff_getElem]
      intro i j hi hj hij u hu v hv
      rw [List.length_map] at hi hj
      rw [List.getElem_map] at hu hv
      obtain ⟨i', a1, a2⟩ := hat i _ (List.getElem?_eq_getElem hi)
      obtain ⟨j', b1, b2⟩ := hat j _ (List.getElem?_eq_getElem hj)
      obtain ⟨p, hp, rfl⟩ := List.mem_map.mp hu
      obtain ⟨q, hq, rfl⟩ := List.mem_map.mp hv
      refine z_B_apart hD a2 b2 (fun e => ?_) hp hq
      subst e
      have := va_nd_inj isC hn i j _ a1 b1
      omega
  refine ⟨fun i j p q hi hj e => ?_, fun k q hk => ?_⟩
  · obtain ⟨li, ei⟩ := List.getElem?_eq_some_iff.mp hi
    obtain ⟨lj, ej⟩ := List.getElem?_eq_some_iff.mp hj
    have h3 := List.pairwise_iff_getElem.mp h2
    rcases Nat.lt_trichotomy i j with h | h | h
    · exfalso
      refine h3 i j (by rw [List.length_map]; exact li) (by rw [List.length_map]; exact lj) h ?_
      rw [List.getElem_map, List.getElem_map, ei, ej]
      exact e
    · exact h
    · exfalso
      refine h3 j i (by rw [List.length_map]; exact lj) (by rw [List.length_map]; exact li) h ?_
      rw [List.getElem_map, List.getElem_map, ei, ej]
      exact e.symm
  · obtain ⟨x, hx, hqx⟩ := List.mem_flatten.mp (List.mem_of_getElem? hk)
    obtain ⟨i, -, h3⟩ := z_mapatB hC hx
    obtain ⟨n, hn'⟩ := List.getElem?_of_mem (List.mem_flatten.mpr ⟨x, List.mem_of_getElem? h3, hqx⟩)
    exact hD.2 n q hn'
theorem z_frameB {A0 : Nat → Prop} {D : va_G} {cl : List vw_C} {BS CB NB : List va_W} {H H1 : Heap} (hP : va_P D cl BS.flatten H) (hD : va_D A0 BS.flatten) (isC : List Nat) (hC : isC.map (fun i => BS[i]?) = CB.map some) (hadr : CB.map z_ad = NB.map z_ad)
    (hk : ∀ q : Nat, q < H.size → ¬ va_A CB.flatten H.size q → H1[q]? = H[q]?) (hP1 : va_P D cl NB.flatten H1) : va_P D cl (z_repB BS isC NB).flatten H1 ∧ va_D A0 (z_repB BS isC NB).flatten := by
  have hl : isC.length = NB.length := by
    have h1 := congrArg List.length hC
    have h2 := congrArg List.length hadr
    simp at h1 h2
    omega
  refine ⟨z_P_mem.mpr (fun q hq => ?_), z_D_adr hD (z_flat_adr (z_repB_adr isC NB BS ?_))⟩
  · obtain ⟨x, hx, hqx⟩ := List.mem_flatten.mp hq
    obtain ⟨k, hkx⟩ := List.getElem?_of_mem hx
    rcases z_repB_at isC NB BS hl k x hkx with h | ⟨h, hni⟩
    · exact z_P_mem.mp hP1 q (List.mem_flatten.mpr ⟨x, h, hqx⟩)
    · have h0 := z_P_mem.mp hP q (List.mem_flatten.mpr ⟨x, List.mem_of_getElem? h, hqx⟩)
      have hlt := h0.lt
      refine h0.kept (hk q.1 hlt (fun ha => ?_))
      rcases ha with ⟨k2, e, h2⟩ | h2
      · obtain ⟨y, hy, hqy⟩ := List.mem_flatten.mp (List.mem_of_getElem? h2)
        obtain ⟨i, h3, h4⟩ := z_mapatB hC hy
        exact z_B_apart hD h h4 (fun z => hni (z ▸ h3)) hqx hqy rfl
      · omega
  · have h1 : isC.map (fun i => (BS[i]?).map z_ad) = (isC.map (fun i => BS[i]?)).map (fun o => o.map z_ad) := by rw [List.map_map]; rfl
    rw [h1, hC, List.map_map]
    have h2 : NB.map (fun e => some (z_ad e)) = (NB.map z_ad).map some := by rw [List.map_map]; rfl
    rw [h2, ← hadr, List.map_map]
    rfl
section ZCB
variable {p : Program} {l : Launch} {e : Env} {R : Room} {s : State} {m : MethodId} {args : Array Value} {below : List Frame} {meth : Method} {c : Code} {D : va_G} {tys : List (ClassId × FieldType)} {A : Nat → Prop} {cc : ByteArray} {nL cells slots : Nat} {own : String} {Ts : List Cond} {ret : Option FieldType} {Q : State → Prop} {ws : va_W} {pc : Nat} {lv : List (Nat × Value)} {st : List Value}
theorem z_freeB {CB BS : List va_W} {isC : List Nat} {H : Heap} {locs : List Loc} (C : z_C p s m args meth c D tys A cc nL own Ts ret) (hD : va_D A BS.flatten) (hS : va_S A s.heap H locs) (hC : isC.map (fun i => BS[i]?) = CB.map some) : ∀ q, va_A CB.flatten H.size q → A q := by
  intro q h
  rcases h with ⟨k, e, h⟩ | h
  · obtain ⟨x, hx, hqx⟩ := List.mem_flatten.mp (List.mem_of_getElem? h)
    obtain ⟨i, -, h3⟩ := z_mapatB hC hx
    obtain ⟨n, hn⟩ := List.getElem?_of_mem (List.mem_flatten.mpr ⟨x, List.mem_of_getElem? h3, hqx⟩)
    exact hD.2 n _ hn
  · exact C.2.2.2.2.2.2.2.2 q (Nat.le_trans hS.1 h)
theorem z_callBVi (C : z_C p s m args meth c D tys A cc nL own Ts ret) (BS : List va_W) (isC : List Nat) (CB NB : List va_W) (ws' : va_W) (As rest : List Value) {y : MethodName} {bytes : ByteArray} {maxL fr lo index n : Nat} {ret' : Option FieldType} {wsy wsy' : List Cond} {wc w1 : va_W} {F : Int} {b ci N : Nat} {T : u_T} {fs : List Value} (hM : z_Mi l y wsy fr lo D tys (.ref b :: As) wc w1 F) (hG : GoodIn Ts (wsV own index y.cls y wsy)) (hw : wsy = Cond.code y bytes maxL ret' :: wsy') (hwc : CB.flatten = wc) (hw1 : NB.flatten = w1) (hd : y.cls ≠ "java/lang/invoke/MethodHandle" ∧ y.cls ≠ "java/lang/invoke/VarHandle" ∧ (parseMethodDescriptor y.desc).map (fun d => d.parameters.length) = some n) (hn : As.length = n) (hR : fr + 1 ≤ R.frames ∧ 8 + (maxL + 11) + lo ≤ R.locals) (hrecv : wc[0]? = some (b, .inr (ci, fs))) (hcl : vwCl[ci]? = some (y.cls, T, N)) (hBS : ws = BS.flatten) (hC : isC.map (fun i => BS[i]?) = CB.map some) (hnd : va_nd isC = true) (hadr : CB.map z_ad = NB.map z_ad) (hws : (z_repB BS isC NB).flatten = ws') (hst : st = As.reverse ++ .ref b :: rest) (hrest : (rest.map fun v => v.category).sum ≤ 8) (hcs : cells ≤ R.cells ∧ slots ≤ R.slots) (hdg : decode cc pc = .ok (.invokevirtual index, 3)) (kk : z_V p l e R s m args below meth c D A nL cells slots Q ws' (pc + 3) lv (.int (z_I F) :: rest)) : z_V p l e R s m args below meth c D A nL cells slots Q ws pc lv st := by
  intro H locs ls hP hD hS h
  subst hBS; subst hwc; subst hw1
  have hPc : va_P D vwCl CB.flatten H := z_subB hP hC
  have hDc := z_subDB hD hC hnd
  have hFc := z_freeB C hD hS hC
  refine va_calli (va_runV (rest := rest) ⟨C.1, C.2.1, C.2.2.1, C.2.2.2.1, C.2.2.2.2.1⟩ (hM H.size) (cwV n C.2.2.2.2.1 hG hw rfl rfl ⟨rfl, hd⟩ hR) ⟨z_blind, va_recv C.2.2.2.2.2.1 hPc hcl hrecv, fun U hU hW => ⟨rfl, by rw [hU], by rw [hU]; exact hPc, va_K.moved hW.alike C.2.2.2.2.2.1, hDc.weaken (fun _ _ _ _ => trivial)⟩⟩ rfl hn h.1 hst (lv_room hrest) hdg hcs) hS (fun q _ h => hFc q h) hFc (fun r u t H1 locs1 ht hvm hr hB hz1 hk1 hS1 => ?_)
  subst hr
  obtain ⟨hP1, hK1, hD1⟩ := hB
  rw [ht] at hP1
  obtain ⟨hP2, hD2⟩ := z_frameB hP hD isC hC hadr hk1 hP1
  exact kk H1 locs1 ls (hws ▸ hP2) (hws ▸ hD2) hS1 h
theorem z_callBVv (C : z_C p s m args meth c D tys A cc nL own Ts ret) (BS : List va_W) (isC : List Nat) (CB NB : List va_W) (ws' : va_W) (As rest : List Value) {y : MethodName} {bytes : ByteArray} {maxL fr lo index n : Nat} {ret' : Option FieldType} {wsy wsy' : List Cond} {wc w1 : va_W} {b ci N : Nat} {T : u_T} {fs : List Value} (hM : z_Mv l y wsy fr lo D tys (.ref b :: As) wc w1) (hG : GoodIn Ts (wsV own index y.cls y wsy)) (hw : wsy = Cond.code y bytes maxL ret' :: wsy') (hwc : CB.flatten = wc) (hw1 : NB.flatten = w1) (hd : y.cls ≠ "java/lang/invoke/MethodHandle" ∧ y.cls ≠ "java/lang/invoke/VarHandle" ∧ (parseMethodDescriptor y.desc).map (fun d => d.parameters.length) = some n) (hn : As.length = n) (hR : fr + 1 ≤ R.frames ∧ 8 + (maxL + 11) + lo ≤ R.locals) (hrecv : wc[0]? = some (b, .inr (ci, fs))) (hcl : vwCl[ci]? = some (y.cls, T, N)) (hBS : ws = BS.flatten) (hC : isC.map (fun i => BS[i]?) = CB.map some) (hnd : va_nd isC = true) (hadr : CB.map z_ad = NB.map z_ad) (hws : (z_repB BS isC NB).flatten = ws') (hst : st = As.reverse ++ .ref b :: rest) (hrest : (rest.map fun v => v.category).sum ≤ 8) (hcs : cells ≤ R.cells ∧ slots ≤ R.slots) (hdg : decode cc pc = .ok (.invokevirtual index, 3)) (kk : z_V p l e R s m args below meth c D A nL cells slots Q ws' (pc + 3) lv rest) : z_V p l e R s m args below meth c D A nL cells slots Q ws pc lv st := by
  intro H locs ls hP hD hS h
  subst hBS; subst hwc; subst hw1
  have hPc : va_P D vwCl CB.flatten H := z_subB hP hC
  have hDc := z_subDB hD hC hnd
  have hFc := z_freeB C hD hS hC
  refine va_callv (va_runV (rest := rest) ⟨C.1, C.2.1, C.2.2.1, C.2.2.2.1, C.2.2.2.2.1⟩ (hM H.size) (cwV n C.2.2.2.2.1 hG hw rfl rfl ⟨rfl, hd⟩ hR) ⟨z_blind, va_recv C.2.2.2.2.2.1 hPc hcl hrecv, fun U hU hW => ⟨rfl, by rw [hU], by rw [hU]; exact hPc, va_K.moved hW.alike C.2.2.2.2.2.1, hDc.weaken (fun _ _ _ _ => trivial)⟩⟩ rfl hn h.1 hst (lv_room hrest) hdg hcs) hS (fun q _ h => hFc q h) hFc (fun u t H1 locs1 ht hvm hr hB hz1 hk1 hS1 => ?_)
  obtain ⟨hP1, hK1, hD1⟩ := hB
  rw [ht] at hP1
  obtain ⟨hP2, hD2⟩ := z_frameB hP hD isC hC hadr hk1 hP1
  exact kk H1 locs1 ls (hws ▸ hP2) (hws ▸ hD2) hS1 h
end ZCB
