/-! ===== numbers: mathematical integers as the machine's ints, rows as functions of an index ===== -/
def z_I (a : Int) : Int32 := Int32.ofInt a
def z_F (f : Int → Int) : Nat → Int32 := fun k => z_I (f (k : Int))
def z_u (f : Int → Int) (i v : Int) : Int → Int := fun j => if j = i then v else f j
theorem z_u_same (f : Int → Int) (i v : Int) : z_u f i v i = v := by simp [z_u]
theorem z_u_ne {f : Int → Int} {i v j : Int} (h : j ≠ i) : z_u f i v j = f j := by simp [z_u, h]
theorem z_I_toInt {a : Int} (h : -2147483648 ≤ a ∧ a < 2147483648) : (z_I a).toInt = a := Int32.toInt_ofInt_of_le (by omega) (by omega)
theorem z_I_of (x : Int32) : z_I x.toInt = x := Int32.ofInt_toInt x
theorem z_rng (x : Int32) : -2147483648 ≤ x.toInt ∧ x.toInt < 2147483648 := by
  have h1 := Int32.toInt_lt x
  have h2 := Int32.le_toInt x
  omega
theorem z_I_add (a b : Int) : z_I a + z_I b = z_I (a + b) := (Int32.ofInt_add a b).symm
theorem z_I_sub (a b : Int) : z_I a - z_I b = z_I (a - b) := (Int32.ofInt_sub a b).symm
theorem z_I_mul (a b : Int) : z_I a * z_I b = z_I (a * b) := (Int32.ofInt_mul a b).symm
theorem z_I_neg (a : Int) : - z_I a = z_I (- a) := (Int32.ofInt_neg a).symm
theorem z_I_inj {a b : Int} (ha : -2147483648 ≤ a ∧ a < 2147483648) (hb : -2147483648 ≤ b ∧ b < 2147483648) : z_I a = z_I b ↔ a = b := by
  refine ⟨fun h => ?_, fun h => by rw [h]⟩
  have h1 := congrArg Int32.toInt h
  rwa [z_I_toInt ha, z_I_toInt hb] at h1
theorem z_I_lt {a b : Int} (ha : -2147483648 ≤ a ∧ a < 2147483648) (hb : -2147483648 ≤ b ∧ b < 2147483648) : z_I a < z_I b ↔ a < b := by
  rw [Int32.lt_iff_toInt_lt, z_I_toInt ha, z_I_toInt hb]
theorem z_I_le {a b : Int} (ha : -2147483648 ≤ a ∧ a < 2147483648) (hb : -2147483648 ≤ b ∧ b < 2147483648) : z_I a ≤ z_I b ↔ a ≤ b := by
  rw [Int32.le_iff_toInt_le, z_I_toInt ha, z_I_toInt hb]
theorem z_I_rem {a b : Int} (ha : 0 ≤ a ∧ a < 2147483648) (hb : 0 < b ∧ b < 2147483648) : z_I a % z_I b = z_I (a % b) := by
  refine Int32.toInt_inj.mp ?_
  have h1 : a % b < b := Int.emod_lt_of_pos a hb.1
  have h2 : 0 ≤ a % b := Int.emod_nonneg a (by omega)
  rw [Int32.toInt_mod, z_I_toInt (by omega), z_I_toInt (by omega), z_I_toInt (by omega), Int.tmod_eq_emod_of_nonneg ha.1]
theorem z_I_div {a b : Int} (ha : 0 ≤ a ∧ a < 2147483648) (hb : 0 < b ∧ b < 2147483648) : z_I a / z_I b = z_I (a / b) := by
  refine Int32.toInt_inj.mp ?_
  have h2 : 0 ≤ a / b := Int.ediv_nonneg ha.1 (by omega)
  have h3 : a / b ≤ a := Int.ediv_le_self b ha.1
  rw [Int32.toInt_div_of_ne_right, z_I_toInt (by omega), z_I_toInt (by omega), z_I_toInt (by omega), Int.tdiv_eq_ediv_of_nonneg ha.1]
  intro h
  have h4 := congrArg Int32.toInt h
  rw [z_I_toInt (by omega)] at h4
  have : (-1 : Int32).toInt = -1 := by decide
  omega
theorem z_F_up {f : Int → Int} {i v : Int} (h0 : 0 ≤ i ∧ i < 2147483648) : upd (z_F f) (z_I i).toNatClampNeg (z_I v) = z_F (z_u f i v) := by
  have h1 : (z_I i).toNatClampNeg = i.toNat := by
    show (z_I i).toInt.toNat = i.toNat
    rw [z_I_toInt (by omega)]
  funext k
  rw [h1]
  unfold upd z_F z_u
  by_cases hk : k = i.toNat
  · have : (k : Int) = i := by omega
    simp [hk]
    have : (i.toNat : Int) = i := by omega
    rw [if_pos (by omega)]
  · rw [if_neg hk, if_neg (by omega)]
theorem z_F_at {f : Int → Int} {i : Int} (h0 : 0 ≤ i ∧ i < 2147483648) : z_F f (z_I i).toNatClampNeg = z_I (f i) := by
  have h1 : (z_I i).toNatClampNeg = i.toNat := by
    show (z_I i).toInt.toNat = i.toNat
    rw [z_I_toInt (by omega)]
  rw [h1]
  unfold z_F
  rw [show ((i.toNat : Nat) : Int) = i by omega]
theorem z_in {i : Int} {n : Nat} (h0 : 0 ≤ i) (h1 : i < n) (hn : n < 2147483648) : vp_in (z_I i) n := by
  rw [vp_in_iff, z_I_toInt (by omega)]
  omega
/-! ===== a stretch of a method: the world as a list of cells, the locals as a list, the stack ===== -/
/-- what stays while a method runs -/
def z_C (p : Program) (s : State) (m : MethodId) (args : Array Value) (meth : Method) (c : Code) (D : va_G) (tys : List (ClassId × FieldType)) (A : Nat → Prop) (cc : ByteArray) (nL : Nat) (own : String) (Ts : List Cond) (ret : Option FieldType) : Prop :=
  p.tables.exec = Jvm.exec ∧ c.code = cc ∧ c.maxLocals = nL ∧ s.vm.findClass own = some m.cls ∧ (∀ w ∈ Ts, w.before args s = true) ∧ va_K D vwCl tys s ∧ meth.sig.returnType = ret ∧ meth.locks = false ∧ (∀ q : Nat, s.heap.size ≤ q → A q)
def z_V (p : Program) (l : Launch) (e : Env) (R : Room) (s : State) (m : MethodId) (args : Array Value) (below : List Frame) (meth : Method) (c : Code) (D : va_G) (A : Nat → Prop) (nL cells slots : Nat) (Q : State → Prop) (ws : va_W) (pc : Nat) (lv : List (Nat × Value)) (st : List Value) : Prop :=
  ∀ (H : Heap) (locs : List Loc) (ls : Array Slot), va_P D vwCl ws H → va_D A ws → va_S A s.heap H locs → lv_has ls nL lv → W p l e R s m args below meth c H locs cells slots Q (F0 m pc ls st)
abbrev z_ai (cA : ClassId) (n : Nat) (f : Int → Int) : va_E := .inl (cA, n, .inl (z_F f))
def z_cp (f g : Int → Int) (sp dp n : Int) : Int → Int := fun j => if dp ≤ j ∧ j < dp + n then f (sp + (j - dp)) else g j
section ZV
variable {p : Program} {l : Launch} {e : Env} {R : Room} {s : State} {m : MethodId} {args : Array Value} {below : List Frame} {meth : Method} {c : Code} {D : va_G} {tys : List (ClassId × FieldType)} {A : Nat → Prop} {cc : ByteArray} {nL cells slots : Nat} {own : String} {Ts : List Cond} {ret : Option FieldType} {Q : State → Prop} {ws : va_W} {pc : Nat} {lv : List (Nat × Value)} {st : List Value}
theorem z_iconst (C : z_C p s m args meth c D tys A cc nL own Ts ret) (v : Int) (hdg : decode cc pc = .ok (.iconst v, 1)) (kk : z_V p l e R s m args below meth c D A nL cells slots Q ws (pc + 1) lv (.int (z_I v) :: st)) : z_V p l e R s m args below meth c D A nL cells slots Q ws pc lv st :=
  fun H locs ls hP hD hS h => lv_iconst C.1 C.2.1 hdg rfl (kk H locs ls hP hD hS h)
theorem z_bipush (C : z_C p s m args meth c D tys A cc nL own Ts ret) (v : Int) (hdg : decode cc pc = .ok (.bipush v, 2)) (hv : (Int8.ofInt v).toInt32 = z_I v) (kk : z_V p l e R s m args below meth c D A nL cells slots Q ws (pc + 2) lv (.int (z_I v) :: st)) : z_V p l e R s m args below meth c D A nL cells slots Q ws pc lv st :=
  fun H locs ls hP hD hS h => lv_bipush C.1 C.2.1 hdg hv (kk H locs ls hP hD hS h)
theorem z_sipush (C : z_C p s m args meth c D tys A cc nL own Ts ret) (v : Int) (hdg : decode cc pc = .ok (.sipush v, 3)) (hv : (Int16.ofInt v).toInt32 = z_I v) (kk : z_V p l e R s m args below meth c D A nL cells slots Q ws (pc + 3) lv (.int (z_I v) :: st)) : z_V p l e R s m args below meth c D A nL cells slots Q ws pc lv st :=
  fun H locs ls hP hD hS h => lv_sipush C.1 C.2.1 hdg hv (kk H locs ls hP hD hS h)
theorem z_iload_n (C : z_C p s m args meth c D tys A cc nL own Ts ret) (j : Nat) {k : Fin 4} {x : Int32} (hdg : decode cc pc = .ok (.iload_n k, 1)) (hl : lv[j]? = some ((k : Nat), .int x)) (kk : z_V p l e R s m args below meth c D A nL cells slots Q ws (pc + 1) lv (.int x :: st)) : z_V p l e R s m args below meth c D A nL cells slots Q ws pc lv st :=
  fun H locs ls hP hD hS h => lv_iload_n C.1 C.2.1 hdg rfl (lv_at h j hl) (kk H locs ls hP hD hS h)
theorem z_iload (C : z_C p s m args meth c D tys A cc nL own Ts ret) (j : Nat) {k : Nat} {x : Int32} (hdg : decode cc pc = .ok (.iload k, 2)) (hl : lv[j]? = some (k, .int x)) (kk : z_V p l e R s m args below meth c D A nL cells slots Q ws (pc + 2) lv (.int x :: st)) : z_V p l e R s m args below meth c D A nL cells slots Q ws pc lv st :=
  fun H locs ls hP hD hS h => lv_iload C.1 C.2.1 hdg (lv_at h j hl) (kk H locs ls hP hD hS h)
theorem z_lload_n (C : z_C p s m args meth c D tys A cc nL own Ts ret) (j : Nat) {k : Fin 4} {x : Int64} (hdg : decode cc pc = .ok (.lload_n k, 1)) (hl : lv[j]? = some ((k : Nat), .long x)) (kk : z_V p l e R s m args below meth c D A nL cells slots Q ws (pc + 1) lv (.long x :: st)) : z_V p l e R s m args below meth c D A nL cells slots Q ws pc lv st :=
  fun H locs ls hP hD hS h => lv_lload_n C.1 C.2.1 hdg rfl (lv_at h j hl) (kk H locs ls hP hD hS h)
theorem z_aload_n (C : z_C p s m args meth c D tys A cc nL own Ts ret) (j : Nat) {k : Fin 4} {x : Nat} (hdg : decode cc pc = .ok (.aload_n k, 1)) (hl : lv[j]? = some ((k : Nat), .ref x)) (kk : z_V p l e R s m args below meth c D A nL cells slots Q ws (pc + 1) lv (.ref x :: st)) : z_V p l e R s m args below meth c D A nL cells slots Q ws pc lv st :=
  fun H locs ls hP hD hS h => lv_aload_n C.1 C.2.1 hdg rfl (lv_at h j hl) (kk H locs ls hP hD hS h)
theorem z_istore_n (C : z_C p s m args meth c D tys A cc nL own Ts ret) (lv' : List (Nat × Value)) {k : Fin 4} {x : Int32} (hdg : decode cc pc = .ok (.istore_n k, 1)) (hn : (k : Nat) < nL) (hl : ((k : Nat), Value.int x) :: lv.filter (fun q => !(q.1 == (k : Nat)) && !(q.1 + 1 == (k : Nat) && q.2.category == 2)) = lv') (kk : z_V p l e R s m args below meth c D A nL cells slots Q ws (pc + 1) lv' st) : z_V p l e R s m args below meth c D A nL cells slots Q ws pc lv (.int x :: st) :=
  fun H locs _ hP hD hS h => lv_istore_n C.1 C.2.1 hdg rfl h hn hl (fun ls' h' => kk H locs ls' hP hD hS h')
theorem z_istore (C : z_C p s m args meth c D tys A cc nL own Ts ret) (lv' : List (Nat × Value)) {k : Nat} {x : Int32} (hdg : decode cc pc = .ok (.istore k, 2)) (hn : k < nL) (hl : (k, Value.int x) :: lv.filter (fun q => !(q.1 == k) && !(q.1 + 1 == k && q.2.category == 2)) = lv') (kk : z_V p l e R s m args below meth c D A nL cells slots Q ws (pc + 2) lv' st) : z_V p l e R s m args below meth c D A nL cells slots Q ws pc lv (.int x :: st) :=
  fun H locs _ hP hD hS h => lv_istore C.1 C.2.1 hdg h hn hl (fun ls' h' => kk H locs ls' hP hD hS h')
theorem z_lstore_n (C : z_C p s m args meth c D tys A cc nL own Ts ret) (lv' : List (Nat × Value)) {k : Fin 4} {x : Int64} (hdg : decode cc pc = .ok (.lstore_n k, 1)) (hn : (k : Nat) + 1 < nL) (hl : ((k : Nat), Value.long x) :: lv.filter (fun q => !(q.1 == (k : Nat)) && (!(q.1 == (k : Nat) + 1) && !(q.1 + 1 == (k : Nat) && q.2.category == 2))) = lv') (kk : z_V p l e R s m args below meth c D A nL cells slots Q ws (pc + 1) lv' st) : z_V p l e R s m args below meth c D A nL cells slots Q ws pc lv (.long x :: st) :=
  fun H locs _ hP hD hS h => lv_lstore_n C.1 C.2.1 hdg rfl h hn hl (fun ls' h' => kk H locs ls' hP hD hS h')
theorem z_astore_n (C : z_C p s m args meth c D tys A cc nL own Ts ret) (lv' : List (Nat × Value)) {k : Fin 4} {x : Nat} (hdg : decode cc pc = .ok (.astore_n k, 1)) (hn : (k : Nat) < nL) (hl : ((k : Nat), Value.ref x) :: lv.filter (fun q => !(q.1 == (k : Nat)) && !(q.1 + 1 == (k : Nat) && q.2.category == 2)) = lv') (kk : z_V p l e R s m args below meth c D A nL cells slots Q ws (pc + 1) lv' st) : z_V p l e R s m args below meth c D A nL cells slots Q ws pc lv (.ref x :: st) :=
  fun H locs _ hP hD hS h => lv_astore_n C.1 C.2.1 hdg rfl h hn hl (fun ls' h' => kk H locs ls' hP hD hS h')
theorem z_iinc (C : z_C p s m args meth c D tys A cc nL own Ts ret) (j : Nat) (lv' : List (Nat × Value)) {i : Nat} {n x : Int} (hdg : decode cc pc = .ok (.iinc i n, 3)) (hk : lv[j]? = some (i, .int (z_I x))) (hn : i < nL) (hl : (i, Value.int (z_I (x + n))) :: lv.filter (fun q => !(q.1 == i) && !(q.1 + 1 == i && q.2.category == 2)) = lv') (kk : z_V p l e R s m args below meth c D A nL cells slots Q ws (pc + 3) lv' st) : z_V p l e R s m args below meth c D A nL cells slots Q ws pc lv st :=
  fun H locs _ hP hD hS h => lv_iinc C.1 C.2.1 hdg h hk (z_I_add x n) hn hl (fun ls' h' => kk H locs ls' hP hD hS h')
theorem z_iadd (C : z_C p s m args meth c D tys A cc nL own Ts ret) {x y : Int} (hdg : decode cc pc = .ok (.iadd, 1)) (kk : z_V p l e R s m args below meth c D A nL cells slots Q ws (pc + 1) lv (.int (z_I (x + y)) :: st)) : z_V p l e R s m args below meth c D A nL cells slots Q ws pc lv (.int (z_I y) :: .int (z_I x) :: st) :=
  fun H locs ls hP hD hS h => lv_iadd C.1 C.2.1 hdg (by rw [z_I_add]; exact kk H locs ls hP hD hS h)
theorem z_isub (C : z_C p s m args meth c D tys A cc nL own Ts ret) {x y : Int} (hdg : decode cc pc = .ok (.isub, 1)) (kk : z_V p l e R s m args below meth c D A nL cells slots Q ws (pc + 1) lv (.int (z_I (x - y)) :: st)) : z_V p l e R s m args below meth c D A nL cells slots Q ws pc lv (.int (z_I y) :: .int (z_I x) :: st) :=
  fun H locs ls hP hD hS h => lv_isub C.1 C.2.1 hdg (by rw [z_I_sub]; exact kk H locs ls hP hD hS h)
theorem z_imul (C : z_C p s m args meth c D tys A cc nL own Ts ret) {x y : Int} (hdg : decode cc pc = .ok (.imul, 1)) (kk : z_V p l e R s m args below meth c D A nL cells slots Q ws (pc + 1) lv (.int (z_I (x * y)) :: st)) : z_V p l e R s m args below meth c D A nL cells slots Q ws pc lv (.int (z_I y) :: .int (z_I x) :: st) :=
  fun H locs ls hP hD hS h => lv_imul C.1 C.2.1 hdg (by rw [z_I_mul]; exact kk H locs ls hP hD hS h)
theorem z_irem (C : z_C p s m args meth c D tys A cc nL own Ts ret) {x y : Int} (hdg : decode cc pc = .ok (.irem, 1)) (hx : 0 ≤ x ∧ x < 2147483648) (hy : 0 < y ∧ y < 2147483648) (kk : z_V p l e R s m args below meth c D A nL cells slots Q ws (pc + 1) lv (.int (z_I (x % y)) :: st)) : z_V p l e R s m args below meth c D A nL cells slots Q ws pc lv (.int (z_I y) :: .int (z_I x) :: st) :=
  fun H locs ls hP hD hS h => lv_irem C.1 C.2.1 hdg (fun h0 => by
    have h1 := (z_I_inj (a := y) (b := 0) (by omega) (by omega)).mp h0
    omega) (by rw [z_I_div ⟨hx.1, hx.2⟩ hy, z_I_mul, z_I_sub, show x - x / y * y = x % y by rw [Int.emod_def, Int.mul_comm]]; exact kk H locs ls hP hD hS h)
theorem z_idiv (C : z_C p s m args meth c D tys A cc nL own Ts ret) {x y : Int} (hdg : decode cc pc = .ok (.idiv, 1)) (hx : 0 ≤ x ∧ x < 2147483648) (hy : 0 < y ∧ y < 2147483648) (kk : z_V p l e R s m args below meth c D A nL cells slots Q ws (pc + 1) lv (.int (z_I (x / y)) :: st)) : z_V p l e R s m args below meth c D A nL cells slots Q ws pc lv (.int (z_I y) :: .int (z_I x) :: st) :=
  fun H locs ls hP hD hS h => lv_idiv C.1 C.2.1 hdg (fun h0 => by
    have h1 := (z_I_inj (a := y) (b := 0) (by omega) (by omega)).mp h0
    omega) (by rw [z_I_div hx hy]; exact kk H locs ls hP hD hS h)
theorem z_iand (C : z_C p s m args meth c D tys A cc nL own Ts ret) {x y : Int} (r : Int) (hdg : decode cc pc = .ok (.iand, 1)) (hr : z_I x &&& z_I y = z_I r) (kk : z_V p l e R s m args below meth c D A nL cells slots Q ws (pc + 1) lv (.int (z_I r) :: st)) : z_V p l e R s m args below meth c D A nL cells slots Q ws pc lv (.int (z_I y) :: .int (z_I x) :: st) :=
  fun H locs ls hP hD hS h => lv_iand C.1 C.2.1 hdg (by rw [hr]; exact kk H locs ls hP hD hS h)
theorem z_ior (C : z_C p s m args meth c D tys A cc nL own Ts ret) {x y : Int} (r : Int) (hdg : decode cc pc = .ok (.ior, 1)) (hr : z_I x ||| z_I y = z_I r) (kk : z_V p l e R s m args below meth c D A nL cells slots Q ws (pc + 1) lv (.int (z_I r) :: st)) : z_V p l e R s m args below meth c D A nL cells slots Q ws pc lv (.int (z_I y) :: .int (z_I x) :: st) :=
  fun H locs ls hP hD hS h => lv_ior C.1 C.2.1 hdg (by rw [hr]; exact kk H locs ls hP hD hS h)
theorem z_ixor (C : z_C p s m args meth c D tys A cc nL own Ts ret) {x y : Int} (r : Int) (hdg : decode cc pc = .ok (.ixor, 1)) (hr : z_I x ^^^ z_I y = z_I r) (kk : z_V p l e R s m args below meth c D A nL cells slots Q ws (pc + 1) lv (.int (z_I r) :: st)) : z_V p l e R s m args below meth c D A nL cells slots Q ws pc lv (.int (z_I y) :: .int (z_I x) :: st) :=
  fun H locs ls hP hD hS h => lv_ixor C.1 C.2.1 hdg (by rw [hr]; exact kk H locs ls hP hD hS h)
theorem z_ishl (C : z_C p s m args meth c D tys A cc nL own Ts ret) {x y : Int} (r : Int) (hdg : decode cc pc = .ok (.ishl, 1)) (hr : z_I x <<< (z_I y &&& 31) = z_I r) (kk : z_V p l e R s m args below meth c D A nL cells slots Q ws (pc + 1) lv (.int (z_I r) :: st)) : z_V p l e R s m args below meth c D A nL cells slots Q ws pc lv (.int (z_I y) :: .int (z_I x) :: st) :=
  fun H locs ls hP hD hS h => lv_ishl C.1 C.2.1 hdg (by rw [hr]; exact kk H locs ls hP hD hS h)
theorem z_ishr (C : z_C p s m args meth c D tys A cc nL own Ts ret) {x y : Int} (r : Int) (hdg : decode cc pc = .ok (.ishr, 1)) (hr : z_I x >>> (z_I y &&& 31) = z_I r) (kk : z_V p l e R s m args below meth c D A nL cells slots Q ws (pc + 1) lv (.int (z_I r) :: st)) : z_V p l e R s m args below meth c D A nL cells slots Q ws pc lv (.int (z_I y) :: .int (z_I x) :: st) :=
  fun H locs ls hP hD hS h => lv_ishr C.1 C.2.1 hdg (by rw [hr]; exact kk H locs ls hP hD hS h)
theorem z_dup (C : z_C p s m args meth c D tys A cc nL own Ts ret) {v : Value} (hdg : decode cc pc = .ok (.dup, 1)) (hv : v.category = 1) (kk : z_V p l e R s m args below meth c D A nL cells slots Q ws (pc + 1) lv (v :: v :: st)) : z_V p l e R s m args below meth c D A nL cells slots Q ws pc lv (v :: st) :=
  fun H locs ls hP hD hS h => lv_dup C.1 C.2.1 hdg hv (kk H locs ls hP hD hS h)
theorem z_dup2 (C : z_C p s m args meth c D tys A cc nL own Ts ret) {v w : Value} (hdg : decode cc pc = .ok (.dup2, 1)) (hv : v.category = 1) (hw : w.category = 1) (kk : z_V p l e R s m args below meth c D A nL cells slots Q ws (pc + 1) lv (v :: w :: v :: w :: st)) : z_V p l e R s m args below meth c D A nL cells slots Q ws pc lv (v :: w :: st) :=
  fun H locs ls hP hD hS h => lv_dup2_11 C.1 C.2.1 hdg hv hw (kk H locs ls hP hD hS h)
theorem z_dup_x1 (C : z_C p s m args meth c D tys A cc nL own Ts ret) {v w : Value} (hdg : decode cc pc = .ok (.dup_x1, 1)) (hv : v.category = 1) (hw : w.category = 1) (kk : z_V p l e R s m args below meth c D A nL cells slots Q ws (pc + 1) lv (v :: w :: v :: st)) : z_V p l e R s m args below meth c D A nL cells slots Q ws pc lv (v :: w :: st) :=
  fun H locs ls hP hD hS h => lv_dup_x1 C.1 C.2.1 hdg hv hw (kk H locs ls hP hD hS h)
theorem z_pop (C : z_C p s m args meth c D tys A cc nL own Ts ret) {v : Value} (hdg : decode cc pc = .ok (.pop, 1)) (hv : v.category = 1) (kk : z_V p l e R s m args below meth c D A nL cells slots Q ws (pc + 1) lv st) : z_V p l e R s m args below meth c D A nL cells slots Q ws pc lv (v :: st) :=
  fun H locs ls hP hD hS h => lv_pop C.1 C.2.1 hdg hv (kk H locs ls hP hD hS h)
theorem z_goto (C : z_C p s m args meth c D tys A cc nL own Ts ret) (tgt : Nat) {off : Int} (hdg : decode cc pc = .ok (.goto off, 3)) (ht : (pc : Int) + off = (tgt : Int)) (kk : z_V p l e R s m args below meth c D A nL cells slots Q ws tgt lv st) : z_V p l e R s m args below meth c D A nL cells slots Q ws pc lv st :=
  fun H locs ls hP hD hS h => lv_goto C.1 C.2.1 hdg ht (kk H locs ls hP hD hS h)
theorem z_icmp_eq (C : z_C p s m args meth c D tys A cc nL own Ts ret) {x y off : Int} (tgt : Nat) (hdg : decode cc pc = .ok (.if_icmp .eq off, 3)) (ht : (pc : Int) + off = (tgt : Int)) (hx : -2147483648 ≤ x ∧ x < 2147483648) (hy : -2147483648 ≤ y ∧ y < 2147483648) (kt : x = y → z_V p l e R s m args below meth c D A nL cells slots Q ws tgt lv st) (kf : ¬ x = y → z_V p l e R s m args below meth c D A nL cells slots Q ws (pc + 3) lv st) : z_V p l e R s m args below meth c D A nL cells slots Q ws pc lv (.int (z_I y) :: .int (z_I x) :: st) :=
  fun H locs ls hP hD hS h => lv_icmp_eq C.1 C.2.1 hdg ht (fun q => kt ((z_I_inj hx hy).mp q) H locs ls hP hD hS h) (fun q => kf (fun z => q ((z_I_inj hx hy).mpr z)) H locs ls hP hD hS h)
theorem z_if_eq (C : z_C p s m args meth c D tys A cc nL own Ts ret) {x off : Int} (tgt : Nat) (hdg : decode cc pc = .ok (.ifCond .eq off, 3)) (ht : (pc : Int) + off = (tgt : Int)) (hx : -2147483648 ≤ x ∧ x < 2147483648) (kt : x = 0 → z_V p l e R s m args below meth c D A nL cells slots Q ws tgt lv st) (kf : ¬ x = 0 → z_V p l e R s m args below meth c D A nL cells slots Q ws (pc + 3) lv st) : z_V p l e R s m args below meth c D A nL cells slots Q ws pc lv (.int (z_I x) :: st) :=
  fun H locs ls hP hD hS h => lv_if_eq C.1 C.2.1 hdg ht (fun q => kt ((z_I_inj hx (b := 0) (by omega)).mp q) H locs ls hP hD hS h) (fun q => kf (fun z => q ((z_I_inj hx (b := 0) (by omega)).mpr z)) H locs ls hP hD hS h)
theorem z_icmp_ne (C : z_C p s m args meth c D tys A cc nL own Ts ret) {x y off : Int} (tgt : Nat) (hdg : decode cc pc = .ok (.if_icmp .ne off, 3)) (ht : (pc : Int) + off = (tgt : Int)) (hx : -2147483648 ≤ x ∧ x < 2147483648) (hy : -2147483648 ≤ y ∧ y < 2147483648) (kt : ¬ x = y → z_V p l e R s m args below meth c D A nL cells slots Q ws tgt lv st) (kf : x = y → z_V p l e R s m args below meth c D A nL cells slots Q ws (pc + 3) lv st) : z_V p l e R s m args below meth c D A nL cells slots Q ws pc lv (.int (z_I y) :: .int (z_I x) :: st) :=
  fun H locs ls hP hD hS h => lv_icmp_ne C.1 C.2.1 hdg ht (fun q => kt (fun z => q (by rw [z])) H locs ls hP hD hS h) (fun q => kf ((z_I_inj hx hy).mp q) H locs ls hP hD hS h)
theorem z_if_ne (C : z_C p s m args meth c D tys A cc nL own Ts ret) {x off : Int} (tgt : Nat) (hdg : decode cc pc = .ok (.ifCond .ne off, 3)) (ht : (pc : Int) + off = (tgt : Int)) (hx : -2147483648 ≤ x ∧ x < 2147483648) (kt : ¬ x = 0 → z_V p l e R s m args below meth c D A nL cells slots Q ws tgt lv st) (kf : x = 0 → z_V p l e R s m args below meth c D A nL cells slots Q ws (pc + 3) lv st) : z_V p l e R s m args below meth c D A nL cells slots Q ws pc lv (.int (z_I x) :: st) :=
  fun H locs ls hP hD hS h => lv_if_ne C.1 C.2.1 hdg ht (fun q => kt (fun z => q (by rw [z]; rfl)) H locs ls hP hD hS h) (fun q => kf ((z_I_inj hx (b := 0) (by omega)).mp q) H locs ls hP hD hS h)
theorem z_icmp_lt (C : z_C p s m args meth c D tys A cc nL own Ts ret) {x y off : Int} (tgt : Nat) (hdg : decode cc pc = .ok (.if_icmp .lt off, 3)) (ht : (pc : Int) + off = (tgt : Int)) (hx : -2147483648 ≤ x ∧ x < 2147483648) (hy : -2147483648 ≤ y ∧ y < 2147483648) (kt : x < y → z_V p l e R s m args below meth c D A nL cells slots Q ws tgt lv st) (kf : ¬ x < y → z_V p l e R s m args below meth c D A nL cells slots Q ws (pc + 3) lv st) : z_V p l e R s m args below meth c D A nL cells slots Q ws pc lv (.int (z_I y) :: .int (z_I x) :: st) :=
  fun H locs ls hP hD hS h => lv_icmp_lt C.1 C.2.1 hdg ht (fun q => kt ((z_I_lt hx hy).mp q) H locs ls hP hD hS h) (fun q => kf (fun z => q ((z_I_lt hx hy).mpr z)) H locs ls hP hD hS h)
theorem z_if_lt (C : z_C p s m args meth c D tys A cc nL own Ts ret) {x off : Int} (tgt : Nat) (hdg : decode cc pc = .ok (.ifCond .lt off, 3)) (ht : (pc : Int) + off = (tgt : Int)) (hx : -2147483648 ≤ x ∧ x < 2147483648) (kt : x < 0 → z_V p l e R s m args below meth c D A nL cells slots Q ws tgt lv st) (kf : ¬ x < 0 → z_V p l e R s m args below meth c D A nL cells slots Q ws (pc + 3) lv st) : z_V p l e R s m args below meth c D A nL cells slots Q ws pc lv (.int (z_I x) :: st) :=
  fun H locs ls hP hD hS h => lv_if_lt C.1 C.2.1 hdg ht (fun q => kt ((z_I_lt hx (b := 0) (by omega)).mp q) H locs ls hP hD hS h) (fun q => kf (fun z => q ((z_I_lt hx (b := 0) (by omega)).mpr z)) H locs ls hP hD hS h)
theorem z_icmp_ge (C : z_C p s m args meth c D tys A cc nL own Ts ret) {x y off : Int} (tgt : Nat) (hdg : decode cc pc = .ok (.if_icmp .ge off, 3)) (ht : (pc : Int) + off = (tgt : Int)) (hx : -2147483648 ≤ x ∧ x < 2147483648) (hy : -2147483648 ≤ y ∧ y < 2147483648) (kt : y ≤ x → z_V p l e R s m args below meth c D A nL cells slots Q ws tgt lv st) (kf : ¬ y ≤ x → z_V p l e R s m args below meth c D A nL cells slots Q ws (pc + 3) lv st) : z_V p l e R s m args below meth c D A nL cells slots Q ws pc lv (.int (z_I y) :: .int (z_I x) :: st) :=
  fun H locs ls hP hD hS h => lv_icmp_ge C.1 C.2.1 hdg ht (fun q => kt ((z_I_le hy hx).mp q) H locs ls hP hD hS h) (fun q => kf (fun z => q ((z_I_le hy hx).mpr z)) H locs ls hP hD hS h)
theorem z_if_ge (C : z_C p s m args meth c D tys A cc nL own Ts ret) {x off : Int} (tgt : Nat) (hdg : decode cc pc = .ok (.ifCond .ge off, 3)) (ht : (pc : Int) + off = (tgt : Int)) (hx : -2147483648 ≤ x ∧ x < 2147483648) (kt : 0 ≤ x → z_V p l e R s m args below meth c D A nL cells slots Q ws tgt lv st) (kf : ¬ 0 ≤ x → z_V p l e R s m args below meth c D A nL cells slots Q ws (pc + 3) lv st) : z_V p l e R s m args below meth c D A nL cells slots Q ws pc lv (.int (z_I x) :: st) :=
  fun H locs ls hP hD hS h => lv_if_ge C.1 C.2.1 hdg ht (fun q => kt ((z_I_le (a := 0) (by omega) hx).mp q) H locs ls hP hD hS h) (fun q => kf (fun z => q ((z_I_le (a := 0) (by omega) hx).mpr z)) H locs ls hP hD hS h)
theorem z_icmp_gt (C : z_C p s m args meth c D tys A cc nL own Ts ret) {x y off : Int} (tgt : Nat) (hdg : decode cc pc = .ok (.if_icmp .gt off, 3)) (ht : (pc : Int) + off = (tgt : Int)) (hx : -2147483648 ≤ x ∧ x < 2147483648) (hy : -2147483648 ≤ y ∧ y < 2147483648) (kt : y < x → z_V p l e R s m args below meth c D A nL cells slots Q ws tgt lv st) (kf : ¬ y < x → z_V p l e R s m args below meth c D A nL cells slots Q ws (pc + 3) lv st) : z_V p l e R s m args below meth c D A nL cells slots Q ws pc lv (.int (z_I y) :: .int (z_I x) :: st) :=
  fun H locs ls hP hD hS h => lv_icmp_gt C.1 C.2.1 hdg ht (fun q => kt ((z_I_lt hy hx).mp q) H locs ls hP hD hS h) (fun q => kf (fun z => q ((z_I_lt hy hx).mpr z)) H locs ls hP hD hS h)
theorem z_if_gt (C : z_C p s m args meth c D tys A cc nL own Ts ret) {x off : Int} (tgt : Nat) (hdg : decode cc pc = .ok (.ifCond .gt off, 3)) (ht : (pc : Int) + off = (tgt : Int)) (hx : -2147483648 ≤ x ∧ x < 2147483648) (kt : 0 < x → z_V p l e R s m args below meth c D A nL cells slots Q ws tgt lv st) (kf : ¬ 0 < x → z_V p l e R s m args below meth c D A nL cells slots Q ws (pc + 3) lv st) : z_V p l e R s m args below meth c D A nL cells slots Q ws pc lv (.int (z_I x) :: st) :=
  fun H locs ls hP hD hS h => lv_if_gt C.1 C.2.1 hdg ht (fun q => kt ((z_I_lt (a := 0) (by omega) hx).mp q) H locs ls hP hD hS h) (fun q => kf (fun z => q ((z_I_lt (a := 0) (by omega) hx).mpr z)) H locs ls hP hD hS h)
theorem z_icmp_le (C : z_C p s m args meth c D tys A cc nL own Ts ret) {x y off : Int} (tgt : Nat) (hdg : decode cc pc = .ok (.if_icmp .le off, 3)) (ht : (pc : Int) + off = (tgt : Int)) (hx : -2147483648 ≤ x ∧ x < 2147483648) (hy : -2147483648 ≤ y ∧ y < 2147483648) (kt : x ≤ y → z_V p l e R s m args below meth c D A nL cells slots Q ws tgt lv st) (kf : ¬ x ≤ y → z_V p l e R s m args below meth c D A nL cells slots Q ws (pc + 3) lv st) : z_V p l e R s m args below meth c D A nL cells slots Q ws pc lv (.int (z_I y) :: .int (z_I x) :: st) :=
  fun H locs ls hP hD hS h => lv_icmp_le C.1 C.2.1 hdg ht (fun q => kt ((z_I_le hx hy).mp q) H locs ls hP hD hS h) (fun q => kf (fun z => q ((z_I_le hx hy).mpr z)) H locs ls hP hD hS h)
theorem z_if_le (C : z_C p s m args meth c D tys A cc nL own Ts ret) {x off : Int} (tgt : Nat) (hdg : decode cc pc = .ok (.ifCond .le off, 3)) (ht : (pc : Int) + off = (tgt : Int)) (hx : -2147483648 ≤ x ∧ x < 2147483648) (kt : x ≤ 0 → z_V p l e R s m args below meth c D A nL cells slots Q ws tgt lv st) (kf : ¬ x ≤ 0 → z_V p l e R s m args below meth c D A nL cells slots Q ws (pc + 3) lv st) : z_V p l e R s m args below meth c D A nL cells slots Q ws pc lv (.int (z_I x) :: st) :=
  fun H locs ls hP hD hS h => lv_if_le C.1 C.2.1 hdg ht (fun q => kt ((z_I_le hx (b := 0) (by omega)).mp q) H locs ls hP hD hS h) (fun q => kf (fun z => q ((z_I_le hx (b := 0) (by omega)).mpr z)) H locs ls hP hD hS h)
theorem z_get (C : z_C p s m args meth c D tys A cc nL own Ts ret) (q0 k : Nat) {a index ci N : Nat} {ref Cn : String} {T : u_T} {fs : List Value} {v : Value} (hin : ∀ w ∈ u_ws Cn T N, w ∈ Ts) (he : ws[q0]? = some (a, .inr (ci, fs))) (hc : vwCl[ci]? = some (Cn, T, N)) (hk : k < N) (hlink : Cond.fieldLink own index ref (T k).2.1 (T k).2.2.1 ∈ Ts) (href : (T k).1 = ref) (hv : fs[k]? = some v) (hdg : decode cc pc = .ok (.getfield index, 3)) (kk : z_V p l e R s m args below meth c D A nL cells slots Q ws (pc + 3) lv (v :: st)) : z_V p l e R s m args below meth c D A nL cells slots Q ws pc lv (.ref a :: st) :=
  fun H locs ls hP hD hS h => va_get C.1 C.2.1 C.2.2.2.2.1 hin C.2.2.2.1 C.2.2.2.2.2.1 hP q0 he hc k hk (C.2.2.2.2.1 _ hlink) (fun x hx => by rw [← href]; exact hx) hv hdg (kk H locs ls hP hD hS h)
theorem z_put (C : z_C p s m args meth c D tys A cc nL own Ts ret) (q0 k : Nat) (ws' : va_W) {a index ci N : Nat} {ref Cn : String} {T : u_T} {ty0 : Nat → FieldType} {fs : List Value} {v : Value} (hin : ∀ w ∈ u_ws Cn T N, w ∈ Ts) (hty : ∀ k, k < N → parseFieldDescriptor (T k).2.2.1 = some (ty0 k)) (hnm : ∀ a, a < N → ∀ b, b < N → a ≠ b → (T a).2.1 ≠ (T b).2.1) (he : ws[q0]? = some (a, .inr (ci, fs))) (hc : vwCl[ci]? = some (Cn, T, N)) (hk : k < N) (hlink : Cond.fieldLink own index ref (T k).2.1 (T k).2.2.1 ∈ Ts) (href : (T k).1 = ref) (hfin : (T k).2.2.2 = false) (hn : narrow (ty0 k) v = v) (hfit : fits (ty0 k) v = true) (hl : k < fs.length) (hws : ws.set q0 (a, .inr (ci, fs.set k v)) = ws') (hdg : decode cc pc = .ok (.putfield index, 3)) (kk : z_V p l e R s m args below meth c D A nL cells slots Q ws' (pc + 3) lv st) : z_V p l e R s m args below meth c D A nL cells slots Q ws pc lv (v :: .ref a :: st) :=
  fun H locs ls hP hD hS h => va_put C.1 C.2.1 C.2.2.2.2.1 hin ty0 hty hnm C.2.2.2.1 C.2.2.2.2.2.1 hP hD hS q0 he hc k hk (C.2.2.2.2.1 _ hlink) (fun x hx => by rw [← href]; exact hx) hfin (hty k hk) hn hfit hl hdg (fun H1 locs1 hP1 hD1 hS1 => kk H1 locs1 ls (hws ▸ hP1) (hws ▸ hD1) hS1 h)
theorem z_putF (C : z_C p s m args meth c D tys A cc nL own Ts ret) (q0 k : Nat) (ws' : va_W) {a index ci N : Nat} {ref Cn : String} {T : u_T} {ty0 : Nat → FieldType} {fs : List Value} {v : Value} (hinit : meth.name = "<init>") (hin : ∀ w ∈ u_ws Cn T N, w ∈ Ts) (hty : ∀ k, k < N → parseFieldDescriptor (T k).2.2.1 = some (ty0 k)) (hnm : ∀ a, a < N → ∀ b, b < N → a ≠ b → (T a).2.1 ≠ (T b).2.1) (he : ws[q0]? = some (a, .inr (ci, fs))) (hc : vwCl[ci]? = some (Cn, T, N)) (hk : k < N) (hlink : Cond.fieldLink own index ref (T k).2.1 (T k).2.2.1 ∈ Ts) (href : (T k).1 = ref) (hfin : (T k).2.2.2 = true) (hdecl : (T k).1 = own) (hn : narrow (ty0 k) v = v) (hfit : fits (ty0 k) v = true) (hl : k < fs.length) (hws : ws.set q0 (a, .inr (ci, fs.set k v)) = ws') (hdg : decode cc pc = .ok (.putfield index, 3)) (kk : z_V p l e R s m args below meth c D A nL cells slots Q ws' (pc + 3) lv st) : z_V p l e R s m args below meth c D A nL cells slots Q ws pc lv (v :: .ref a :: st) :=
  fun H locs ls hP hD hS h => va_putF C.1 C.2.1 C.2.2.2.2.1 hin ty0 hty hnm C.2.2.2.1 C.2.2.2.2.2.1 hP hD hS q0 he hc k hk (C.2.2.2.2.1 _ hlink) (fun x hx => by rw [← href]; exact hx) hfin hinit hdecl (hty k hk) hn hfit hl hdg (fun H1 locs1 hP1 hD1 hS1 => kk H1 locs1 ls (hws ▸ hP1) (hws ▸ hD1) hS1 h)
theorem z_iald (C : z_C p s m args meth c D tys A cc nL own Ts ret) (q0 t0 : Nat) {a n : Nat} {cA : ClassId} {f : Int → Int} {i : Int} (ha : ws[q0]? = some (a, z_ai cA n f)) (ht : tys[t0]? = some (cA, .int)) (hn : n < 2147483648) (h0 : 0 ≤ i ∧ i < (n : Int)) (hdg : decode cc pc = .ok (.iaload, 1)) (kk : z_V p l e R s m args below meth c D A nL cells slots Q ws (pc + 1) lv (.int (z_I (f i)) :: st)) : z_V p l e R s m args below meth c D A nL cells slots Q ws pc lv (.int (z_I i) :: .ref a :: st) :=
  fun H locs ls hP hD hS h => va_iald C.1 C.2.1 C.2.2.2.2.2.1 hP q0 t0 ha ht (z_in h0.1 h0.2 hn) hdg (by rw [z_F_at (by omega)]; exact kk H locs ls hP hD hS h)
theorem z_zald (C : z_C p s m args meth c D tys A cc nL own Ts ret) (q0 t0 : Nat) {a n : Nat} {cA : ClassId} {f : Int → Int} {i : Int} (ha : ws[q0]? = some (a, z_ai cA n f)) (ht : tys[t0]? = some (cA, .boolean)) (hn : n < 2147483648) (h0 : 0 ≤ i ∧ i < (n : Int)) (hdg : decode cc pc = .ok (.baload, 1)) (kk : z_V p l e R s m args below meth c D A nL cells slots Q ws (pc + 1) lv (.int (z_I (f i)) :: st)) : z_V p l e R s m args below meth c D A nL cells slots Q ws pc lv (.int (z_I i) :: .ref a :: st) :=
  fun H locs ls hP hD hS h => va_zald C.1 C.2.1 C.2.2.2.2.2.1 hP q0 t0 ha ht (z_in h0.1 h0.2 hn) hdg (by rw [z_F_at (by omega)]; exact kk H locs ls hP hD hS h)
theorem z_iast (C : z_C p s m args meth c D tys A cc nL own Ts ret) (q0 t0 : Nat) (ws' : va_W) {a n : Nat} {cA : ClassId} {f : Int → Int} {i x : Int} (ha : ws[q0]? = some (a, z_ai cA n f)) (ht : tys[t0]? = some (cA, .int)) (hn : n < 2147483648) (h0 : 0 ≤ i ∧ i < (n : Int)) (hws : ws.set q0 (a, z_ai cA n (z_u f i x)) = ws') (hdg : decode cc pc = .ok (.iastore, 1)) (kk : z_V p l e R s m args below meth c D A nL cells slots Q ws' (pc + 1) lv st) : z_V p l e R s m args below meth c D A nL cells slots Q ws pc lv (.int (z_I x) :: .int (z_I i) :: .ref a :: st) :=
  fun H locs ls hP hD hS h => va_iast C.1 C.2.1 C.2.2.2.2.2.1 hP hD hS q0 t0 ha ht (z_in h0.1 h0.2 hn) hdg (fun H1 locs1 hP1 hD1 hS1 => by
    rw [z_F_up (by omega)] at hP1 hD1
    exact kk H1 locs1 ls (hws ▸ hP1) (hws ▸ hD1) hS1 h)
theorem z_zast (C : z_C p s m args meth c D tys A cc nL own Ts ret) (q0 t0 : Nat) (ws' : va_W) {a n : Nat} {cA : ClassId} {f : Int → Int} {i x : Int} (ha : ws[q0]? = some (a, z_ai cA n f)) (ht : tys[t0]? = some (cA, .boolean)) (hn : n < 2147483648) (h0 : 0 ≤ i ∧ i < (n : Int)) (hx : vp_nar .boolean (z_I x) = z_I x) (hws : ws.set q0 (a, z_ai cA n (z_u f i x)) = ws') (hdg : decode cc pc = .ok (.bastore, 1)) (kk : z_V p l e R s m args below meth c D A nL cells slots Q ws' (pc + 1) lv st) : z_V p l e R s m args below meth c D A nL cells slots Q ws pc lv (.int (z_I x) :: .int (z_I i) :: .ref a :: st) :=
  fun H locs ls hP hD hS h => va_zast C.1 C.2.1 C.2.2.2.2.2.1 hP hD hS q0 t0 ha ht (z_in h0.1 h0.2 hn) hdg (fun H1 locs1 hP1 hD1 hS1 => by
    rw [hx, z_F_up (by omega)] at hP1 hD1
    exact kk H1 locs1 ls (hws ▸ hP1) (hws ▸ hD1) hS1 h)
theorem z_look (C : z_C p s m args meth c D tys A cc nL own Ts ret) (tgt : Nat) {dflt : Int} {ps : Array (Int × Int)} {len : Nat} {x : Int} {off : Int} (hdg : decode cc pc = .ok (.lookupswitch dflt ps, len)) (hp : (ps.toList.zip (ps.toList.drop 1)).all (fun (a, next) => a.1 < next.1) = true) (hx : -2147483648 ≤ x ∧ x < 2147483648) (ho : Op.lookupswitch.offset ps.toList dflt x = off) (ht : (pc : Int) + off = (tgt : Int)) (kk : z_V p l e R s m args below meth c D A nL cells slots Q ws tgt lv st) : z_V p l e R s m args below meth c D A nL cells slots Q ws pc lv (.int (z_I x) :: st) :=
  fun H locs ls hP hD hS h => lv_lookup C.1 C.2.1 hdg hp (by rw [z_I_toInt hx]; exact ho) ht (kk H locs ls hP hD hS h)
theorem z_tabO (C : z_C p s m args meth c D tys A cc nL own Ts ret) (tgt : Nat) {dflt lo hi : Int} {offs : Array Int} {len : Nat} {x : Int} (hdg : decode cc pc = .ok (.tableswitch dflt lo hi offs, len)) (hx : -2147483648 ≤ x ∧ x < 2147483648) (ho : x < lo ∨ hi < x) (ht : (pc : Int) + dflt = (tgt : Int)) (kk : z_V p l e R s m args below meth c D A nL cells slots Q ws tgt lv st) : z_V p l e R s m args below meth c D A nL cells slots Q ws pc lv (.int (z_I x) :: st) :=
  fun H locs ls hP hD hS h => lv_tableOut C.1 C.2.1 hdg (by rw [z_I_toInt hx]; exact ho) ht (kk H locs ls hP hD hS h)
theorem z_tabI (C : z_C p s m args meth c D tys A cc nL own Ts ret) (tgt : Nat) (x0 : Int) {dflt lo hi : Int} {offs : Array Int} {len : Nat} {x off : Int} (hdg : decode cc pc = .ok (.tableswitch dflt lo hi offs, len)) (hx : x = x0) (hb : -2147483648 ≤ x0 ∧ x0 < 2147483648 ∧ lo ≤ x0 ∧ x0 ≤ hi) (ho : offs[(x0 - lo).toNat]? = some off) (ht : (pc : Int) + off = (tgt : Int)) (kk : z_V p l e R s m args below meth c D A nL cells slots Q ws tgt lv st) : z_V p l e R s m args below meth c D A nL cells slots Q ws pc lv (.int (z_I x) :: st) :=
  fun H locs ls hP hD hS h => lv_tableIn C.1 C.2.1 hdg (by rw [hx, z_I_toInt (by omega)]; omega) (by rw [hx, z_I_toInt (by omega)]; omega) (by rw [hx, z_I_toInt (by omega)]; exact ho) ht (kk H locs ls hP hD hS h)
theorem z_alen (C : z_C p s m args meth c D tys A cc nL own Ts ret) (q0 t0 : Nat) {a n : Nat} {cA : ClassId} {f : Int → Int} (ha : ws[q0]? = some (a, z_ai cA n f)) (ht : tys[t0]? = some (cA, .int)) (hdg : decode cc pc = .ok (.arraylength, 1)) (kk : z_V p l e R s m args below meth c D A nL cells slots Q ws (pc + 1) lv (.int (z_I (n : Int)) :: st)) : z_V p l e R s m args below meth c D A nL cells slots Q ws pc lv (.ref a :: st) :=
  fun H locs ls hP hD hS h => va_alen C.1 C.2.1 C.2.2.2.2.2.1 hP q0 t0 ha ht rfl hdg (by rw [show (Int32.ofNat n) = z_I (n : Int) from (Int32.ofInt_eq_ofNat (n := n)).symm]; exact kk H locs ls hP hD hS h)
theorem z_mmax (C : z_C p s m args meth c D tys A cc nL own Ts ret) {index : Nat} {x y : Int} (hlink : Cond.methodLink own index Lib.Math.max.name ∈ Ts) (hstat : Cond.static Lib.Math.max.name ∈ Ts) (hini : Cond.initialized "java/lang/Math" ∈ Ts) (hcode : Cond.code Lib.Math.max.name Lib.Math.max.code 2 (some .int) ∈ Ts) (hR : 1 ≤ R.frames ∧ 21 ≤ R.locals ∧ cells ≤ R.cells ∧ slots ≤ R.slots) (hst : (st.map fun v => v.category).sum ≤ 8) (hx : -2147483648 ≤ x ∧ x < 2147483648) (hy : -2147483648 ≤ y ∧ y < 2147483648) (hdg : decode cc pc = .ok (.invokestatic index, 3)) (kk : z_V p l e R s m args below meth c D A nL cells slots Q ws (pc + 3) lv (.int (z_I (if x < y then y else x)) :: st)) : z_V p l e R s m args below meth c D A nL cells slots Q ws pc lv (.int (z_I y) :: .int (z_I x) :: st) :=
  fun H locs ls hP hD hS h => va_mmax C.1 C.2.1 (by rw [C.2.2.1]; exact h.1.symm) C.2.2.2.1 (C.2.2.2.2.1 _ hlink) (C.2.2.2.2.1 _ hstat) (C.2.2.2.2.1 _ hini) (C.2.2.2.2.1 _ hcode) hR.1 (by omega) hR.2.2.1 hR.2.2.2 hdg (by
    have h1 : ((if z_I x < z_I y then z_I y else z_I x) = z_I (if x < y then y else x)) := by
      by_cases q : x < y
      · rw [if_pos q, if_pos ((z_I_lt hx hy).mpr q)]
      · rw [if_neg q, if_neg (fun z => q ((z_I_lt hx hy).mp z))]
    rw [h1]
    exact kk H locs ls hP hD hS h)
theorem z_mmin (C : z_C p s m args meth c D tys A cc nL own Ts ret) {index : Nat} {x y : Int} (hlink : Cond.methodLink own index Lib.Math.min.name ∈ Ts) (hstat : Cond.static Lib.Math.min.name ∈ Ts) (hini : Cond.initialized "java/lang/Math" ∈ Ts) (hcode : Cond.code Lib.Math.min.name Lib.Math.min.code 2 (some .int) ∈ Ts) (hR : 1 ≤ R.frames ∧ 21 ≤ R.locals ∧ cells ≤ R.cells ∧ slots ≤ R.slots) (hst : (st.map fun v => v.category).sum ≤ 8) (hx : -2147483648 ≤ x ∧ x < 2147483648) (hy : -2147483648 ≤ y ∧ y < 2147483648) (hdg : decode cc pc = .ok (.invokestatic index, 3)) (kk : z_V p l e R s m args below meth c D A nL cells slots Q ws (pc + 3) lv (.int (z_I (if y < x then y else x)) :: st)) : z_V p l e R s m args below meth c D A nL cells slots Q ws pc lv (.int (z_I y) :: .int (z_I x) :: st) :=
  fun H locs ls hP hD hS h => va_mmin C.1 C.2.1 (by rw [C.2.2.1]; exact h.1.symm) C.2.2.2.1 (C.2.2.2.2.1 _ hlink) (C.2.2.2.2.1 _ hstat) (C.2.2.2.2.1 _ hini) (C.2.2.2.2.1 _ hcode) hR.1 (by omega) hR.2.2.1 hR.2.2.2 hdg (by
    have h1 : ((if z_I y < z_I x then z_I y else z_I x) = z_I (if y < x then y else x)) := by
      by_cases q : y < x
      · rw [if_pos q, if_pos ((z_I_lt hy hx).mpr q)]
      · rw [if_neg q, if_neg (fun z => q ((z_I_lt hy hx).mp z))]
    rw [h1]
    exact kk H locs ls hP hD hS h)
theorem z_copy (C : z_C p s m args meth c D tys A cc nL own Ts ret) (q0 q1 t0 : Nat) (ws' : va_W) (ty : FieldType) {index a0 a n0 n1 : Nat} {cA : ClassId} {f g : Int → Int} {sp dp n : Int} (hlink : Cond.methodLink own index arraycopyName ∈ Ts) (hnat : Cond.native arraycopyName ∈ Ts) (hstat : Cond.static arraycopyName ∈ Ts) (hini : Cond.initialized "java/lang/System" ∈ Ts) (ha0 : ws[q0]? = some (a0, z_ai cA n0 f)) (ha1 : ws[q1]? = some (a, z_ai cA n1 g)) (ht : tys[t0]? = some (cA, ty)) (hprim : refKind ty = false) (hb : 0 ≤ sp ∧ 0 ≤ dp ∧ 0 ≤ n ∧ sp + n ≤ (n0 : Int) ∧ dp + n ≤ (n1 : Int) ∧ (n0 : Int) < 2147483648 ∧ (n1 : Int) < 2147483648) (hfit : ∀ i : Int, 0 ≤ i → i < n → fits ty (.int (z_I (f (sp + i)))) = true) (hR : 1 ≤ R.frames ∧ (st.map fun v => v.category).sum + (nativeFrameWords "java/lang/System" "arraycopy" 5 + 11) ≤ R.locals) (hws : ws.set q1 (a, z_ai cA n1 (z_cp f g sp dp n)) = ws') (hdg : decode cc pc = .ok (.invokestatic index, 3)) (kk : z_V p l e R s m args below meth c D A nL cells slots Q ws' (pc + 3) lv st) : z_V p l e R s m args below meth c D A nL cells slots Q ws pc lv (.int (z_I n) :: .int (z_I dp) :: .ref a :: .int (z_I sp) :: .ref a0 :: st) := by
  intro H locs ls hP hD hS h
  have e1 : ∀ x : Int, 0 ≤ x ∧ x < 2147483648 → (z_I x).toNatClampNeg = x.toNat := fun x hx => by
    show (z_I x).toInt.toNat = x.toNat
    rw [z_I_toInt (by omega)]
  have e2 : ∀ x : Int, 0 ≤ x ∧ x < 2147483648 → ¬ z_I x < 0 := fun x hx q => by
    have := (z_I_lt (a := x) (b := 0) (by omega) (by omega)).mp q
    omega
  have e3 : va_cpy (z_F f) (z_F g) (z_I sp).toNatClampNeg (z_I dp).toNatClampNeg (z_I n).toNatClampNeg = z_F (z_cp f g sp dp n) := by
    rw [e1 sp (by omega), e1 dp (by omega), e1 n (by omega)]
    funext k
    unfold va_cpy z_F z_cp
    by_cases q : dp.toNat ≤ k ∧ k < dp.toNat + n.toNat
    · rw [if_pos q, if_pos (by omega)]
      congr 2
      omega
    · rw [if_neg q, if_neg (by omega)]
  refine va_copyi C.1 C.2.1 (by rw [C.2.2.1]; exact h.1.symm) C.2.2.2.1 (C.2.2.2.2.1 _ hlink) (C.2.2.2.2.1 _ hnat) (C.2.2.2.2.1 _ hstat) (C.2.2.2.2.1 _ hini) C.2.2.2.2.2.1 hP hD hS q0 q1 t0 t0 ha0 ha1 ht ht hprim (e2 sp (by omega)) (e2 dp (by omega)) (e2 n (by omega)) (by rw [e1 sp (by omega), e1 n (by omega)]; omega) (by rw [e1 dp (by omega), e1 n (by omega)]; omega) ?_ hR.1 hR.2 hdg ?_
  · intro i hi
    rw [e1 n (by omega)] at hi
    rw [e1 sp (by omega)]
    have := hfit (i : Int) (by omega) (by omega)
    unfold z_F
    rw [show ((sp.toNat + i : Nat) : Int) = sp + (i : Int) by omega]
    exact this
  · intro H1 locs1 hP1 hD1 hS1
    rw [e3] at hP1 hD1
    exact kk H1 locs1 ls (hws ▸ hP1) (hws ▸ hD1) hS1 h
end ZV
