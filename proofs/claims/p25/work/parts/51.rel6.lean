/-- HOLD -/
theorem z_rl_ho {c : z_Ct} {P : Int → Int → Prop} {e : Int → Int → Int} {b v : Int} {f : Int → Int} (h : z_rl c P e b f) (hrn : 0 ≤ c.2.1.1) (hsn : 0 ≤ c.2.2.1.1) : z_rl (c.1, c.2.1, c.2.2.1, v, c.2.2.2.2.1, c.2.2.2.2.2.1, c.2.2.2.2.2.2.1, c.2.2.2.2.2.2.2) P e b (z_u f (b + 1) v) := by
  obtain ⟨a1, a2, a3, a4, a5⟩ := h
  refine ⟨?_, ?_, ?_, ?_, ?_⟩
  · rw [z_u_ne (show ¬ b = b + 1 by omega), z_u_ne (show ¬ (b + 2) = b + 1 by omega), z_u_ne (show ¬ (b + 3) = b + 1 by omega), z_u_ne (show ¬ (b + 4) = b + 1 by omega), z_u_ne (show ¬ (b + 5) = b + 1 by omega), z_u_ne (show ¬ (b + 6) = b + 1 by omega), z_u_ne (show ¬ (b + 7) = b + 1 by omega), z_u_ne (show ¬ (b + 8) = b + 1 by omega)]
    exact ⟨a1.1, z_u_same _ _ _, a1.2.2.1, a1.2.2.2.1, a1.2.2.2.2.1, a1.2.2.2.2.2.1, a1.2.2.2.2.2.2.1, a1.2.2.2.2.2.2.2.1, a1.2.2.2.2.2.2.2.2⟩
  · intro k k1 k2
    rw [z_u_ne (by omega), z_u_ne (by omega), z_u_ne (by omega)]
    exact a2 k k1 k2
  · intro k i k1 k2 i1 i2 hp
    rw [z_u_ne (by omega)]
    exact a3 k i k1 k2 i1 i2 hp
  · intro i i1 i2
    rw [z_u_ne (by omega)]
    exact a4 i i1 i2
  · intro i i1 i2
    rw [z_u_ne (by omega), z_u_ne (by omega), z_u_ne (by omega), z_u_ne (by omega)]
    exact a5 i i1 i2
theorem z_rl_dly {c : z_Ct} {P : Int → Int → Prop} {e : Int → Int → Int} {b k v : Int} {f : Int → Int} (h : z_rl c P e b f) (hk : 0 ≤ k ∧ k < 5) (hrn : 0 ≤ c.2.1.1) (hsn : 0 ≤ c.2.2.1.1) : z_rl ((c.1.1, c.1.2.1, c.1.2.2.1, c.1.2.2.2.1, (z_u c.1.2.2.2.2.1 k v), c.1.2.2.2.2.2.1, c.1.2.2.2.2.2.2), c.2.1, c.2.2.1, c.2.2.2.1, c.2.2.2.2.1, c.2.2.2.2.2.1, c.2.2.2.2.2.2.1, c.2.2.2.2.2.2.2) P e b (z_u f (b + 9 + k) v) := by
  obtain ⟨a1, a2, a3, a4, a5⟩ := h
  refine ⟨?_, ?_, ?_, ?_, ?_⟩
  · rw [z_u_ne (show ¬ b = b + 9 + k by omega), z_u_ne (show ¬ (b + 1) = b + 9 + k by omega), z_u_ne (show ¬ (b + 2) = b + 9 + k by omega), z_u_ne (show ¬ (b + 3) = b + 9 + k by omega), z_u_ne (show ¬ (b + 4) = b + 9 + k by omega), z_u_ne (show ¬ (b + 5) = b + 9 + k by omega), z_u_ne (show ¬ (b + 6) = b + 9 + k by omega), z_u_ne (show ¬ (b + 7) = b + 9 + k by omega), z_u_ne (show ¬ (b + 8) = b + 9 + k by omega)]
    exact a1
  · intro j j1 j2
    have h9 := a2 j j1 j2
    refine ⟨?_, by rw [z_u_ne (by omega)]; exact h9.2.1, by rw [z_u_ne (by omega)]; exact h9.2.2⟩
    show z_u f (b + 9 + k) v (b + 9 + j) = z_u c.1.2.2.2.2.1 k v j
    by_cases q : j = k
    · rw [q, z_u_same, z_u_same]
    · rw [z_u_ne q, z_u_ne (by omega)]
      exact h9.1
  · intro j i k1 k2 i1 i2 hp
    rw [z_u_ne (by omega)]
    exact a3 j i k1 k2 i1 i2 hp
  · intro i i1 i2
    rw [z_u_ne (by omega)]
    exact a4 i i1 i2
  · intro i i1 i2
    rw [z_u_ne (by omega), z_u_ne (by omega), z_u_ne (by omega), z_u_ne (by omega)]
    exact a5 i i1 i2
def z_mv (sl : Int → z_Ct) (us : Int → Int) (slf svf : Int → Int) : Prop := ∀ s : Int, 0 ≤ s → s < 2 → svf s = us s ∧ (us s = 0 ∨ us s = 1) ∧ (¬ us s = 0 → z_rel (sl s) (356 * s) slf)
