/-! ===== the words of the wave ===== -/
theorem z_p2_pos (k : Int) : 0 < z_p2 k := by
  unfold z_p2
  exact Int.pow_pos (by omega)
theorem z_p2_le {k : Int} (h : 0 ≤ k ∧ k ≤ 5) : 1 ≤ z_p2 k ∧ z_p2 k ≤ 32 := by
  obtain ⟨n, rfl⟩ := Int.eq_ofNat_of_zero_le h.1
  rw [z_p2_nat]
  have : n ≤ 5 := by omega
  have h1 := Nat.two_pow_pos n
  have h2 : 2 ^ n ≤ 2 ^ 5 := Nat.pow_le_pow_right (by omega) this
  omega
abbrev z_R : Type := Int × Int × Int × (Int → Int) × (Int → Int)
/-- a turning of the stage k begins x times, at the time t -/
def z_bg (t : Int) (dl : Int → Int) (k x : Int) (du : Int → Int) : Int → Int := z_u du (k * 21 + (t + dl k) % 21) (du (k * 21 + (t + dl k) % 21) + x)
/-- the stage k's turnings that are due are done: how many in all, the outputs, those on their way, those done, those due -/
def z_tdS (t st : Int) (dl : Int → Int) (k : Int) (r : z_R) : z_R :=
  if 0 < r.2.2.2.2 (k * 21 + t % 21) then
    if k + 1 < st then (r.1 + r.2.2.2.2 (k * 21 + t % 21), r.2.1 - z_bit r.2.1 k * z_p2 k + (z_bit r.2.1 k + r.2.2.2.2 (k * 21 + t % 21)) % 2 * z_p2 k, r.2.2.1 - r.2.2.2.2 (k * 21 + t % 21) + (z_bit r.2.1 k + r.2.2.2.2 (k * 21 + t % 21)) / 2, z_u r.2.2.2.1 k (r.2.2.2.1 k + r.2.2.2.2 (k * 21 + t % 21)), z_bg t dl (k + 1) ((z_bit r.2.1 k + r.2.2.2.2 (k * 21 + t % 21)) / 2) (z_u r.2.2.2.2 (k * 21 + t % 21) 0))
    else (r.1 + r.2.2.2.2 (k * 21 + t % 21), r.2.1 - z_bit r.2.1 k * z_p2 k + (z_bit r.2.1 k + r.2.2.2.2 (k * 21 + t % 21)) % 2 * z_p2 k, r.2.2.1 - r.2.2.2.2 (k * 21 + t % 21), z_u r.2.2.2.1 k (r.2.2.2.1 k + r.2.2.2.2 (k * 21 + t % 21)), z_u r.2.2.2.2 (k * 21 + t % 21) 0)
  else r
theorem z_tdS_1 {t st : Int} {dl : Int → Int} {k : Int} {r : z_R} (h1 : 0 < r.2.2.2.2 (k * 21 + t % 21)) (h2 : k + 1 < st) : z_tdS t st dl k r = (r.1 + r.2.2.2.2 (k * 21 + t % 21), r.2.1 - z_bit r.2.1 k * z_p2 k + (z_bit r.2.1 k + r.2.2.2.2 (k * 21 + t % 21)) % 2 * z_p2 k, r.2.2.1 - r.2.2.2.2 (k * 21 + t % 21) + (z_bit r.2.1 k + r.2.2.2.2 (k * 21 + t % 21)) / 2, z_u r.2.2.2.1 k (r.2.2.2.1 k + r.2.2.2.2 (k * 21 + t % 21)), z_bg t dl (k + 1) ((z_bit r.2.1 k + r.2.2.2.2 (k * 21 + t % 21)) / 2) (z_u r.2.2.2.2 (k * 21 + t % 21) 0)) := by
  unfold z_tdS
  rw [if_pos h1, if_pos h2]
theorem z_tdS_2 {t st : Int} {dl : Int → Int} {k : Int} {r : z_R} (h1 : 0 < r.2.2.2.2 (k * 21 + t % 21)) (h2 : ¬ k + 1 < st) : z_tdS t st dl k r = (r.1 + r.2.2.2.2 (k * 21 + t % 21), r.2.1 - z_bit r.2.1 k * z_p2 k + (z_bit r.2.1 k + r.2.2.2.2 (k * 21 + t % 21)) % 2 * z_p2 k, r.2.2.1 - r.2.2.2.2 (k * 21 + t % 21), z_u r.2.2.2.1 k (r.2.2.2.1 k + r.2.2.2.2 (k * 21 + t % 21)), z_u r.2.2.2.2 (k * 21 + t % 21) 0) := by
  unfold z_tdS
  rw [if_pos h1, if_neg h2]
theorem z_tdS_3 {t st : Int} {dl : Int → Int} {k : Int} {r : z_R} (h1 : ¬ 0 < r.2.2.2.2 (k * 21 + t % 21)) : z_tdS t st dl k r = r := by
  unfold z_tdS
  rw [if_neg h1]
/-- whether a reading is true: stage by stage, from the stage k on, n stages -/
def z_rt (dl : Int → Int) (c g : Int) (k th : Int) : Nat → Int
  | 0 => 1
  | n + 1 => if z_bit (if 0 < c - (th + dl k) / g then c - (th + dl k) / g else 0) k = z_bit c k then z_rt dl c g (k + 1) (th + dl k) n else 0
theorem z_rt_step {dl : Int → Int} {c g k th : Int} {n m : Nat} (h : n = m + 1) : z_rt dl c g k th n = if z_bit (if 0 < c - (th + dl k) / g then c - (th + dl k) / g else 0) k = z_bit c k then z_rt dl c g (k + 1) (th + dl k) m else 0 := by
  subst h
  rfl
theorem z_rt01 (dl : Int → Int) (c g : Int) : ∀ (n : Nat) (k th : Int), z_rt dl c g k th n = 0 ∨ z_rt dl c g k th n = 1
  | 0, _, _ => Or.inr rfl
  | n + 1, k, th => by
    rw [z_rt_step (m := n) rfl]
    by_cases h : z_bit (if 0 < c - (th + dl k) / g then c - (th + dl k) / g else 0) k = z_bit c k
    · rw [if_pos h]
      exact z_rt01 dl c g n (k + 1) (th + dl k)
    · rw [if_neg h]
      exact Or.inl rfl
section ZX
variable {p : Program} {l : Launch} {e : Env} {R : Room} {s : State} {m : MethodId} {args : Array Value} {below : List Frame} {meth : Method} {c : Code} {D : va_G} {A : Nat → Prop} {nL cells slots : Nat} {Q : State → Prop} {ws : va_W} {pc : Nat} {lv : List (Nat × Value)} {st : List Value}
/-- an array's content may be told by another function that is the same within its length -/
theorem z_cell {cA : ClassId} {n : Nat} {f g : Int → Int} (h : ∀ i : Int, 0 ≤ i → i < (n : Int) → f i = g i) : vp_cell cA (n, .inl (z_F f)) = vp_cell cA (n, .inl (z_F g)) := by
  show arrV cA n (fun j => .int (z_F f j)) = arrV cA n (fun j => .int (z_F g j))
  unfold arrV
  congr 1
  apply Array.ext
  · simp
  · intro i h1 h2
    simp only [Array.getElem_ofFn]
    unfold z_F
    rw [h (i : Int) (by omega) (by simp at h1; omega)]
theorem z_arr (q0 : Nat) (g : Int → Int) (ws' : va_W) {a n : Nat} {cA : ClassId} {f : Int → Int} (ha : ws[q0]? = some (a, z_ai cA n f)) (h : ∀ i : Int, 0 ≤ i → i < (n : Int) → f i = g i) (hws : ws.set q0 (a, z_ai cA n g) = ws') (kk : z_V p l e R s m args below meth c D A nL cells slots Q ws' pc lv st) : z_V p l e R s m args below meth c D A nL cells slots Q ws pc lv st := by
  intro H locs ls hP hD hS hl
  have h1 : va_at D vwCl (a, z_ai cA n g) H := by
    have h2 := hP q0 _ ha
    show H[a]? = some (vp_cell cA (n, .inl (z_F g)))
    rw [← z_cell h]
    exact h2
  refine kk H locs ls (hws ▸ hP.set hD ha h1 (fun _ _ => rfl)) (hws ▸ hD.set ha) hS hl
end ZX
theorem z_cp_full {f g : Int → Int} {n i : Int} (h1 : 0 ≤ i) (h2 : i < n) : z_cp f g 0 0 n i = f i := by
  unfold z_cp
  rw [if_pos (by omega)]
  congr 1
  omega
theorem z_fitZ {x : Int} (h : x = 0 ∨ x = 1) : fits .boolean (.int (z_I x)) = true := by rcases h with rfl | rfl <;> decide
theorem z_narZ {x : Int} (h : x = 0 ∨ x = 1) : vp_nar .boolean (z_I x) = z_I x := by rcases h with rfl | rfl <;> decide
theorem z_if0 {P : Prop} {d : Decidable P} : (if P then (1 : Int) else 0) = 0 ↔ ¬ P := by
  by_cases h : P <;> simp [h]
theorem z_if1 {P : Prop} {d : Decidable P} : ¬ (if P then (1 : Int) else 0) = 0 ↔ P := by
  by_cases h : P <;> simp [h]
def z_or (a b : Int) : Int := (z_I a ||| z_I b).toInt
theorem z_or_eq (a b : Int) : z_I a ||| z_I b = z_I (z_or a b) := (z_I_of _).symm
