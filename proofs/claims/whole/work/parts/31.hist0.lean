/-! ===== the words of the history ===== -/
def z_rw (L : List Nat) : Nat → Option Nat := fun k => L[k]?
def z_uc (f : Int → z_Ct) (i : Int) (v : z_Ct) : Int → z_Ct := fun j => if j = i then v else f j
def z_stK (k kp : Int) : Int := if k < 0 then kp else if kp < 6 then kp + 1 else kp
def z_stO (k kp od : Int) : Int := if k < 0 then od else if kp < 6 then od else (od + 1) % 7
section ZH
variable {p : Program} {l : Launch} {e : Env} {R : Room} {s : State} {m : MethodId} {args : Array Value} {below : List Frame} {meth : Method} {c : Code} {D : va_G} {tys : List (ClassId × FieldType)} {A : Nat → Prop} {cc : ByteArray} {nL cells slots : Nat} {own : String} {Ts : List Cond} {ret : Option FieldType} {Q : State → Prop} {ws : va_W} {pc : Nat} {lv : List (Nat × Value)} {st : List Value}
theorem z_aald (C : z_C p s m args meth c D tys A cc nL own Ts ret) (q0 t0 v : Nat) {a n q : Nat} {cA : ClassId} {Cn : String} {f : Nat → Option Nat} {i : Int} (ha : ws[q0]? = some (a, .inl (cA, n, .inr (.inr (.inr (.inr f)))))) (ht : tys[t0]? = some (cA, .object Cn)) (hi : i = (v : Int)) (hv : v < n ∧ n < 2147483648) (hf : f v = some q) (hdg : decode cc pc = .ok (.aaload, 1)) (kk : z_V p l e R s m args below meth c D A nL cells slots Q ws (pc + 1) lv (.ref q :: st)) : z_V p l e R s m args below meth c D A nL cells slots Q ws pc lv (.int (z_I i) :: .ref a :: st) := by
  intro H locs ls hP hD hS h
  subst hi
  have e1 : (z_I (v : Int)).toNatClampNeg = v := by
    show (z_I (v : Int)).toInt.toNat = v
    rw [z_I_toInt (by omega)]
    omega
  refine va_aldq C.1 C.2.1 C.2.2.2.2.2.1 hP q0 t0 ha ht (z_in (by omega) (by omega) hv.2) hdg ?_
  rw [e1, hf]
  exact kk H locs ls hP hD hS h
end ZH
