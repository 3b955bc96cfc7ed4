/-- the last time -/
theorem z_rl_ld {c : z_Ct} {P : Int → Int → Prop} {e : Int → Int → Int} {b v : Int} {f : Int → Int} (h : z_rl c P e b f) (hrn : 0 ≤ c.2.1.1) (hsn : 0 ≤ c.2.2.1.1) : z_rl (c.1, c.2.1, c.2.2.1, c.2.2.2.1, c.2.2.2.2.1, c.2.2.2.2.2.1, v, c.2.2.2.2.2.2.2) P e b (z_u f (b + 5) v) := by
  obtain ⟨a1, a2, a3, a4, a5⟩ := h
  refine ⟨?_, ?_, ?_, ?_, ?_⟩
  · rw [z_u_ne (show ¬ b = b + 5 by omega), z_u_ne (show ¬ (b + 1) = b + 5 by omega), z_u_ne (show ¬ (b + 2) = b + 5 by omega), z_u_ne (show ¬ (b + 3) = b + 5 by omega), z_u_ne (show ¬ (b + 4) = b + 5 by omega), z_u_ne (show ¬ (b + 6) = b + 5 by omega), z_u_ne (show ¬ (b + 7) = b + 5 by omega), z_u_ne (show ¬ (b + 8) = b + 5 by omega)]
    exact ⟨a1.1, a1.2.1, a1.2.2.1, a1.2.2.2.1, a1.2.2.2.2.1, z_u_same _ _ _, a1.2.2.2.2.2.2.1, a1.2.2.2.2.2.2.2.1, a1.2.2.2.2.2.2.2.2⟩
  · intro k k1 k2
    rw [z_u_ne (by omega), z_u_ne (by omega), z_u_ne (by omega)]
    exact a2 k k1 k2
  · intro k i k1 k2 i1 i2 hp
    rw [z_u_ne (by omega)]
    exact a3 k i k1 k2 i1 i2 hp
  · intro i i1 i2
    rw [z_u_ne (by omega)]
    exact a4 i i1 i2
  · intro i i1 i2
    rw [z_u_ne (by omega), z_u_ne (by omega), z_u_ne (by omega), z_u_ne (by omega)]
    exact a5 i i1 i2
/-- the latch -/
theorem z_rl_lw {c : z_Ct} {P : Int → Int → Prop} {e : Int → Int → Int} {b v : Int} {f : Int → Int} (h : z_rl c P e b f) (hrn : 0 ≤ c.2.1.1) (hsn : 0 ≤ c.2.2.1.1) : z_rl (c.1, c.2.1, c.2.2.1, c.2.2.2.1, c.2.2.2.2.1, c.2.2.2.2.2.1, c.2.2.2.2.2.2.1, v) P e b (z_u f (b + 6) v) := by
  obtain ⟨a1, a2, a3, a4, a5⟩ := h
  refine ⟨?_, ?_, ?_, ?_, ?_⟩
  · rw [z_u_ne (show ¬ b = b + 6 by omega), z_u_ne (show ¬ (b + 1) = b + 6 by omega), z_u_ne (show ¬ (b + 2) = b + 6 by omega), z_u_ne (show ¬ (b + 3) = b + 6 by omega), z_u_ne (show ¬ (b + 4) = b + 6 by omega), z_u_ne (show ¬ (b + 5) = b + 6 by omega), z_u_ne (show ¬ (b + 7) = b + 6 by omega), z_u_ne (show ¬ (b + 8) = b + 6 by omega)]
    exact ⟨a1.1, a1.2.1, a1.2.2.1, a1.2.2.2.1, a1.2.2.2.2.1, a1.2.2.2.2.2.1, z_u_same _ _ _, a1.2.2.2.2.2.2.2.1, a1.2.2.2.2.2.2.2.2⟩
  · intro k k1 k2
    rw [z_u_ne (by omega), z_u_ne (by omega), z_u_ne (by omega)]
    exact a2 k k1 k2
  · intro k i k1 k2 i1 i2 hp
    rw [z_u_ne (by omega)]
    exact a3 k i k1 k2 i1 i2 hp
  · intro i i1 i2
    rw [z_u_ne (by omega)]
    exact a4 i i1 i2
  · intro i i1 i2
    rw [z_u_ne (by omega), z_u_ne (by omega), z_u_ne (by omega), z_u_ne (by omega)]
    exact a5 i i1 i2
/-- the time -/
theorem z_rl_tm {c : z_Ct} {P : Int → Int → Prop} {e : Int → Int → Int} {b v : Int} {f : Int → Int} (h : z_rl c P e b f) (hrn : 0 ≤ c.2.1.1) (hsn : 0 ≤ c.2.2.1.1) : z_rl ((v, c.1.2.1, c.1.2.2.1, c.1.2.2.2.1, c.1.2.2.2.2.1, c.1.2.2.2.2.2.1, c.1.2.2.2.2.2.2), c.2.1, c.2.2.1, c.2.2.2.1, c.2.2.2.2.1, c.2.2.2.2.2.1, c.2.2.2.2.2.2.1, c.2.2.2.2.2.2.2) P e b (z_u f (b + 2) v) := by
  obtain ⟨a1, a2, a3, a4, a5⟩ := h
  refine ⟨?_, ?_, ?_, ?_, ?_⟩
  · rw [z_u_ne (show ¬ b = b + 2 by omega), z_u_ne (show ¬ (b + 1) = b + 2 by omega), z_u_ne (show ¬ (b + 3) = b + 2 by omega), z_u_ne (show ¬ (b + 4) = b + 2 by omega), z_u_ne (show ¬ (b + 5) = b + 2 by omega), z_u_ne (show ¬ (b + 6) = b + 2 by omega), z_u_ne (show ¬ (b + 7) = b + 2 by omega), z_u_ne (show ¬ (b + 8) = b + 2 by omega)]
    exact ⟨a1.1, a1.2.1, z_u_same _ _ _, a1.2.2.2.1, a1.2.2.2.2.1, a1.2.2.2.2.2.1, a1.2.2.2.2.2.2.1, a1.2.2.2.2.2.2.2.1, a1.2.2.2.2.2.2.2.2⟩
  · intro k k1 k2
    rw [z_u_ne (by omega), z_u_ne (by omega), z_u_ne (by omega)]
    exact a2 k k1 k2
  · intro k i k1 k2 i1 i2 hp
    rw [z_u_ne (by omega)]
    exact a3 k i k1 k2 i1 i2 hp
  · intro i i1 i2
    rw [z_u_ne (by omega)]
    exact a4 i i1 i2
  · intro i i1 i2
    rw [z_u_ne (by omega), z_u_ne (by omega), z_u_ne (by omega), z_u_ne (by omega)]
    exact a5 i i1 i2
/-- the counter of a stage loop's state -/
def z_cS (c : z_Ct) (r : z_R) : z_Ct := ((c.1.1, c.1.2.1, r.2.1, c.1.2.2.2.1, c.1.2.2.2.2.1, r.2.2.2.1, c.1.2.2.2.2.2.2), c.2.1, c.2.2.1, c.2.2.2.1, c.2.2.2.2.1, c.2.2.2.2.2.1, c.2.2.2.2.2.2.1, c.2.2.2.2.2.2.2)
def z_eS (c : z_Ct) (r : z_R) : Int → Int → Int := fun j x => r.2.2.2.2 (j * 21 + (c.1.1 + x) % 21)
def z_cD (c : z_Ct) (r : z_R) (k i : Int) : z_Ct := ((c.1.1, c.1.2.1, (r.2.1 - z_bit r.2.1 k * z_p2 k + (z_bit r.2.1 k + i) % 2 * z_p2 k), c.1.2.2.2.1, c.1.2.2.2.2.1, (z_u r.2.2.2.1 k (r.2.2.2.1 k + i)), c.1.2.2.2.2.2.2), c.2.1, c.2.2.1, c.2.2.2.1, c.2.2.2.2.1, c.2.2.2.2.2.1, c.2.2.2.2.2.2.1, c.2.2.2.2.2.2.2)
def z_eD (c : z_Ct) (r : z_R) (k i : Int) : Int → Int → Int := fun j x => r.2.2.2.2 (j * 21 + (c.1.1 + x) % 21) + if j = k + 1 ∧ k + 1 < c.1.2.1 ∧ x = c.1.2.2.2.2.1 (k + 1) then (z_bit r.2.1 k + i) / 2 else 0
theorem z_rlS_0 {c : z_Ct} {b : Int} {f : Int → Int} (h : z_rel c b f) : z_rl (z_cS c (0, c.1.2.2.1, c.1.2.2.2.1, c.1.2.2.2.2.2.1, c.1.2.2.2.2.2.2)) (fun j x => ¬ x = 0 ∨ 0 ≤ j) (z_eS c (0, c.1.2.2.1, c.1.2.2.2.1, c.1.2.2.2.2.2.1, c.1.2.2.2.2.2.2)) b f := ⟨h.1, h.2.1, fun k i k1 k2 i1 i2 _ => h.2.2.1 k i k1 k2 i1 i2 trivial, h.2.2.2.1, h.2.2.2.2⟩
theorem z_rlD_0 {c : z_Ct} {r : z_R} {k b : Int} {f : Int → Int} {P : Int → Int → Prop} (h : z_rl (z_cS c r) P (z_eS c r) b f) : z_rl (z_cD c r k 0) P (z_eD c r k 0) b f := by
  have hb := z_bit01 r.2.1 k
  have e1 : r.2.1 - z_bit r.2.1 k * z_p2 k + (z_bit r.2.1 k + 0) % 2 * z_p2 k = r.2.1 := by
    rw [show (z_bit r.2.1 k + 0) % 2 = z_bit r.2.1 k by omega]
    omega
  have e2 : z_u r.2.2.2.1 k (r.2.2.2.1 k + 0) = r.2.2.2.1 := by
    funext j
    by_cases q : j = k
    · rw [q, z_u_same]; omega
    · rw [z_u_ne q]
  have e3 : z_cD c r k 0 = z_cS c r := by
    unfold z_cD z_cS
    rw [e1, e2]
  rw [e3]
  refine ⟨h.1, h.2.1, fun j x j1 j2 x1 x2 hp => ?_, h.2.2.2.1, h.2.2.2.2⟩
  rw [h.2.2.1 j x j1 j2 x1 x2 hp]
  unfold z_eD z_eS
  split <;> omega
theorem z_rlD_s {c : z_Ct} {r : z_R} {k i b : Int} {f : Int → Int} (h : z_rl (z_cD c r k i) (fun j x => ¬ x = 0 ∨ k ≤ j) (z_eD c r k i) b f) (hst : 1 ≤ c.1.2.1 ∧ c.1.2.1 ≤ 5) (hk : 0 ≤ k ∧ k < c.1.2.1) (hi : 0 ≤ i) (hsh : 0 ≤ r.2.1 ∧ r.2.1 < 32) (hdl : ∀ j : Int, 0 ≤ j → j < 5 → 1 ≤ c.1.2.2.2.2.1 j ∧ c.1.2.2.2.2.1 j ≤ 20) (hrn : 0 ≤ c.2.1.1) (hsn : 0 ≤ c.2.2.1.1) :
    z_rl (z_cD c r k (i + 1)) (fun j x => ¬ x = 0 ∨ k ≤ j) (z_eD c r k (i + 1)) b (z_dn b k f) := by
  have hb := z_bit01 r.2.1 k
  obtain ⟨a1, a2, a3, a4, a5⟩ := h
  have a1' : f b = c.1.2.1 := a1.1
  have o14 : f (b + 14 + k) = (z_bit r.2.1 k + i) % 2 := by
    rw [(a2 k hk.1 (by omega)).2.1]
    show z_bit (r.2.1 - z_bit r.2.1 k * z_p2 k + (z_bit r.2.1 k + i) % 2 * z_p2 k) k = _
    rw [z_bit_set hsh (by omega) (by omega) (by omega), if_pos rfl]
  have o19 : f (b + 19 + k) = r.2.2.2.1 k + i := by
    rw [(a2 k hk.1 (by omega)).2.2]
    exact z_u_same _ _ _
  -- what the row is behind a turning
  have hg : ∃ v : Int, (∀ j : Int, ¬ j = b + 14 + k → ¬ j = b + 19 + k → ¬ (k + 1 < c.1.2.1 ∧ j = b + 24 + 21 * (k + 1) + c.1.2.2.2.2.1 (k + 1)) → z_dn b k f j = f j) ∧ z_dn b k f (b + 14 + k) = (z_bit r.2.1 k + (i + 1)) % 2 ∧ z_dn b k f (b + 19 + k) = r.2.2.2.1 k + (i + 1) ∧
      (k + 1 < c.1.2.1 → z_dn b k f (b + 24 + 21 * (k + 1) + c.1.2.2.2.2.1 (k + 1)) = f (b + 24 + 21 * (k + 1) + c.1.2.2.2.2.1 (k + 1)) + ((z_bit r.2.1 k + (i + 1)) / 2 - (z_bit r.2.1 k + i) / 2)) := by
    refine ⟨0, ?_⟩
    by_cases q : f (b + 14 + k) = 1 ∧ k + 1 < f b
    · have hd := hdl (k + 1) (by omega) (by omega)
      have e9 : z_dn0 b k f (b + 9 + (k + 1)) = c.1.2.2.2.2.1 (k + 1) := by
        unfold z_dn0
        rw [z_u_ne (by omega), z_u_ne (by omega)]
        exact (a2 (k + 1) (by omega) (by omega)).1
      have e : z_dn b k f = z_tn b (k + 1) (z_dn0 b k f) := if_pos q
      rw [e]
      unfold z_tn
      rw [e9]
      refine ⟨fun j j1 j2 j3 => ?_, ?_, ?_, fun _ => ?_⟩
      · unfold z_dn0
        rw [z_u_ne (by omega), z_u_ne j2, z_u_ne j1]
      · unfold z_dn0
        rw [z_u_ne (by omega), z_u_ne (by omega), z_u_same, o14]
        omega
      · unfold z_dn0
        rw [z_u_ne (by omega), z_u_same, z_u_ne (by omega), o19]
        omega
      · rw [z_u_same]
        unfold z_dn0
        rw [z_u_ne (by omega), z_u_ne (by omega)]
        omega
    · have e : z_dn b k f = z_dn0 b k f := if_neg q
      rw [e]
      unfold z_dn0
      refine ⟨fun j j1 j2 j3 => ?_, ?_, ?_, fun h9 => ?_⟩
      · rw [z_u_ne j2, z_u_ne j1]
      · rw [z_u_ne (by omega), z_u_same, o14]
        omega
      · rw [z_u_same, z_u_ne (by omega), o19]
        omega
      · have hd := hdl (k + 1) (by omega) (by omega)
        rw [z_u_ne (by omega), z_u_ne (by omega)]
        omega
  obtain ⟨-, g1, g2, g3, g4⟩ := hg
  have hd : k + 1 < c.1.2.1 → 1 ≤ c.1.2.2.2.2.1 (k + 1) ∧ c.1.2.2.2.2.1 (k + 1) ≤ 20 := fun h9 => hdl (k + 1) (by omega) (by omega)
  refine ⟨?_, ?_, ?_, ?_, ?_⟩
  · rw [g1 b (by omega) (by omega) (by omega), g1 (b + 1) (by omega) (by omega) (by omega), g1 (b + 2) (by omega) (by omega) (by omega), g1 (b + 3) (by omega) (by omega) (by omega), g1 (b + 4) (by omega) (by omega) (by omega), g1 (b + 5) (by omega) (by omega) (by omega), g1 (b + 6) (by omega) (by omega) (by omega), g1 (b + 7) (by omega) (by omega) (by omega), g1 (b + 8) (by omega) (by omega) (by omega)]
    exact a1
  · intro j j1 j2
    rw [g1 (b + 9 + j) (by omega) (by omega) (by omega)]
    refine ⟨(a2 j j1 j2).1, ?_, ?_⟩
    · show z_dn b k f (b + 14 + j) = z_bit (r.2.1 - z_bit r.2.1 k * z_p2 k + (z_bit r.2.1 k + (i + 1)) % 2 * z_p2 k) j
      rw [z_bit_set hsh (by omega) (by omega) (by omega)]
      by_cases q : j = k
      · rw [if_pos q, q]; exact g2
      · rw [if_neg q, g1 _ (by omega) (by omega) (by omega), (a2 j j1 j2).2.1]
        show z_bit (r.2.1 - z_bit r.2.1 k * z_p2 k + (z_bit r.2.1 k + i) % 2 * z_p2 k) j = _
        rw [z_bit_set hsh (by omega) (by omega) (by omega), if_neg q]
    · show z_dn b k f (b + 19 + j) = z_u r.2.2.2.1 k (r.2.2.2.1 k + (i + 1)) j
      by_cases q : j = k
      · rw [q, z_u_same]; exact g3
      · rw [z_u_ne q, g1 _ (by omega) (by omega) (by omega), (a2 j j1 j2).2.2]
        exact z_u_ne q
  · intro j x j1 j2 x1 x2 hp
    have h9 := a3 j x j1 j2 x1 x2 hp
    unfold z_eD at h9 ⊢
    by_cases q : j = k + 1 ∧ k + 1 < c.1.2.1 ∧ x = c.1.2.2.2.2.1 (k + 1)
    · rw [if_pos q] at h9 ⊢
      have h8 := g4 q.2.1
      rw [q.1, q.2.2] at h9 ⊢
      rw [h8, h9]
      omega
    · rw [if_neg q] at h9 ⊢
      rw [g1 _ (by omega) (by omega) (fun z => q ⟨by have := hd z.1; omega, z.1, by have := hd z.1; omega⟩)]
      exact h9
  · intro j j1 j2
    rw [g1 _ (by omega) (by omega) (fun z => by have := hd z.1; omega)]
    exact a4 j j1 j2
  · intro j j1 j2
    rw [g1 (b + 228 + 4 * j) (by omega) (by omega) (fun z => by have := hd z.1; omega), g1 (b + 228 + 4 * j + 1) (by omega) (by omega) (fun z => by have := hd z.1; omega), g1 (b + 228 + 4 * j + 2) (by omega) (by omega) (fun z => by have := hd z.1; omega), g1 (b + 228 + 4 * j + 3) (by omega) (by omega) (fun z => by have := hd z.1; omega)]
    exact a5 j j1 j2
theorem z_rlD_e {c : z_Ct} {r : z_R} {k b : Int} {f : Int → Int} (h : z_rl (z_cD c r k (r.2.2.2.2 (k * 21 + c.1.1 % 21))) (fun j x => ¬ x = 0 ∨ k ≤ j) (z_eD c r k (r.2.2.2.2 (k * 21 + c.1.1 % 21))) b f) (hst : 1 ≤ c.1.2.1 ∧ c.1.2.1 ≤ 5) (hk : 0 ≤ k ∧ k < c.1.2.1) (ht : 0 ≤ c.1.1) (hm : 0 ≤ r.2.2.2.2 (k * 21 + c.1.1 % 21)) (hdl : ∀ j : Int, 0 ≤ j → j < 5 → 1 ≤ c.1.2.2.2.2.1 j ∧ c.1.2.2.2.2.1 j ≤ 20) :
    z_rl (z_cS c (z_tdS c.1.1 c.1.2.1 c.1.2.2.2.2.1 k r)) (fun j x => ¬ x = 0 ∨ k + 1 ≤ j) (z_eS c (z_tdS c.1.1 c.1.2.1 c.1.2.2.2.2.1 k r)) b f := by
  have hb := z_bit01 r.2.1 k
  by_cases q : 0 < r.2.2.2.2 (k * 21 + c.1.1 % 21)
  · by_cases q2 : k + 1 < c.1.2.1
    · have hd := hdl (k + 1) (by omega) (by omega)
      rw [z_tdS_1 q q2]
      refine ⟨h.1, h.2.1, fun j x j1 j2 x1 x2 hp => ?_, h.2.2.2.1, h.2.2.2.2⟩
      rw [h.2.2.1 j x j1 j2 x1 x2 (by omega)]
      unfold z_eD z_eS z_bg
      dsimp only
      by_cases q3 : j = k + 1 ∧ x = c.1.2.2.2.2.1 (k + 1)
      · rw [if_pos ⟨q3.1, q2, q3.2⟩, q3.1, q3.2, z_u_same, z_u_ne (by omega)]
      · rw [if_neg (fun z => q3 ⟨z.1, z.2.2⟩), z_u_ne (by omega), z_u_ne (by omega)]
        omega
    · rw [z_tdS_2 q q2]
      refine ⟨h.1, h.2.1, fun j x j1 j2 x1 x2 hp => ?_, h.2.2.2.1, h.2.2.2.2⟩
      rw [h.2.2.1 j x j1 j2 x1 x2 (by omega)]
      unfold z_eD z_eS
      dsimp only
      rw [if_neg (fun z => q2 z.2.1), z_u_ne (by omega)]
      omega
  · have e0 : r.2.2.2.2 (k * 21 + c.1.1 % 21) = 0 := by omega
    rw [z_tdS_3 q]
    rw [e0] at h
    have e1 : r.2.1 - z_bit r.2.1 k * z_p2 k + (z_bit r.2.1 k + 0) % 2 * z_p2 k = r.2.1 := by
      rw [show (z_bit r.2.1 k + 0) % 2 = z_bit r.2.1 k by omega]
      omega
    have e2 : z_u r.2.2.2.1 k (r.2.2.2.1 k + 0) = r.2.2.2.1 := by
      funext j
      by_cases q : j = k
      · rw [q, z_u_same]; omega
      · rw [z_u_ne q]
    have e3 : z_cD c r k 0 = z_cS c r := by
      unfold z_cD z_cS
      rw [e1, e2]
    rw [e3] at h
    refine ⟨h.1, h.2.1, fun j x j1 j2 x1 x2 hp => ?_, h.2.2.2.1, h.2.2.2.2⟩
    rw [h.2.2.1 j x j1 j2 x1 x2 (by omega)]
    unfold z_eD z_eS
    split <;> omega
/-- the shift of the rows by a nanosecond: the stages below k, and below i of the stage k, are through -/
def z_pH (c : z_Ct) (k i : Int) : Int → Int → Prop := fun j x => (j < k ∨ (j = k ∧ x < i)) ∨ ¬ x = 0 ∨ c.1.2.1 ≤ j
def z_eH (c : z_Ct) (r : z_R) (k i : Int) : Int → Int → Int := fun j x => if j < k ∨ (j = k ∧ x < i) then (if x = 20 then 0 else r.2.2.2.2 (j * 21 + (c.1.1 + (x + 1)) % 21)) else r.2.2.2.2 (j * 21 + (c.1.1 + x) % 21)
theorem z_rlH_0 {c d : z_Ct} {r : z_R} {b : Int} {f : Int → Int} (h : z_rl d (fun j x => ¬ x = 0 ∨ c.1.2.1 ≤ j) (z_eS c r) b f) : z_rl d (z_pH c 0 0) (z_eH c r 0 0) b f := by
  refine ⟨h.1, h.2.1, fun j x j1 j2 x1 x2 hp => ?_, h.2.2.2.1, h.2.2.2.2⟩
  unfold z_pH at hp
  rw [h.2.2.1 j x j1 j2 x1 x2 (by omega)]
  unfold z_eH z_eS
  rw [if_neg (by omega)]
theorem z_rlH_s {c d : z_Ct} {r : z_R} {k i b v : Int} {f : Int → Int} (h : z_rl d (z_pH c k i) (z_eH c r k i) b f) (hk : 0 ≤ k ∧ k < 5) (hi : 0 ≤ i ∧ i ≤ 20) (hv : v = if i = 20 then 0 else f (b + 24 + 21 * k + (i + 1))) (hrn : 0 ≤ d.2.1.1) (hsn : 0 ≤ d.2.2.1.1) : z_rl d (z_pH c k (i + 1)) (z_eH c r k (i + 1)) b (z_u f (b + 24 + 21 * k + i) v) := by
  obtain ⟨a1, a2, a3, a4, a5⟩ := h
  refine ⟨?_, ?_, ?_, ?_, ?_⟩
  · rw [z_u_ne (show ¬ b = b + 24 + 21 * k + i by omega), z_u_ne (show ¬ (b + 1) = b + 24 + 21 * k + i by omega), z_u_ne (show ¬ (b + 2) = b + 24 + 21 * k + i by omega), z_u_ne (show ¬ (b + 3) = b + 24 + 21 * k + i by omega), z_u_ne (show ¬ (b + 4) = b + 24 + 21 * k + i by omega), z_u_ne (show ¬ (b + 5) = b + 24 + 21 * k + i by omega), z_u_ne (show ¬ (b + 6) = b + 24 + 21 * k + i by omega), z_u_ne (show ¬ (b + 7) = b + 24 + 21 * k + i by omega), z_u_ne (show ¬ (b + 8) = b + 24 + 21 * k + i by omega)]
    exact a1
  · intro j j1 j2
    rw [z_u_ne (by omega), z_u_ne (by omega), z_u_ne (by omega)]
    exact a2 j j1 j2
  · intro j x j1 j2 x1 x2 hp
    unfold z_pH at hp
    unfold z_eH
    by_cases q : j = k ∧ x = i
    · rw [q.1, q.2, z_u_same, if_pos (by omega), hv]
      by_cases q2 : i = 20
      · rw [if_pos q2, if_pos q2]
      · rw [if_neg q2, if_neg q2, a3 k (i + 1) (by omega) (by omega) (by omega) (by omega) (by unfold z_pH; omega)]
        unfold z_eH
        rw [if_neg (by omega)]
    · rw [z_u_ne (by omega), a3 j x j1 j2 x1 x2 (by unfold z_pH; omega)]
      unfold z_eH
      by_cases q2 : j < k ∨ (j = k ∧ x < i)
      · rw [if_pos q2, if_pos (show j < k ∨ (j = k ∧ x < i + 1) by omega)]
      · rw [if_neg q2, if_neg (show ¬ (j < k ∨ (j = k ∧ x < i + 1)) by omega)]
  · intro j j1 j2
    rw [z_u_ne (by omega)]
    exact a4 j j1 j2
  · intro j j1 j2
    rw [z_u_ne (by omega), z_u_ne (by omega), z_u_ne (by omega), z_u_ne (by omega)]
    exact a5 j j1 j2
theorem z_rlH_n {c d : z_Ct} {r : z_R} {k b : Int} {f : Int → Int} (h : z_rl d (z_pH c k 21) (z_eH c r k 21) b f) : z_rl d (z_pH c (k + 1) 0) (z_eH c r (k + 1) 0) b f := by
  refine ⟨h.1, h.2.1, fun j x j1 j2 x1 x2 hp => ?_, h.2.2.2.1, h.2.2.2.2⟩
  unfold z_pH at hp
  rw [h.2.2.1 j x j1 j2 x1 x2 (by unfold z_pH; omega)]
  unfold z_eH
  by_cases q : j < k ∨ (j = k ∧ x < 21)
  · rw [if_pos q, if_pos (show j < k + 1 ∨ (j = k + 1 ∧ x < 0) by omega)]
  · rw [if_neg q, if_neg (show ¬ (j < k + 1 ∨ (j = k + 1 ∧ x < 0)) by omega)]
theorem z_rlH_e {c d : z_Ct} {r : z_R} {b : Int} {f : Int → Int} (h : z_rl d (z_pH c 5 0) (z_eH c r 5 0) b f) (hz : ∀ j : Int, 0 ≤ j → j < 5 → r.2.2.2.2 (j * 21 + c.1.1 % 21) = 0) : z_rl d (fun _ _ => True) (fun j x => r.2.2.2.2 (j * 21 + (c.1.1 + 1 + x) % 21)) b f := by
  refine ⟨h.1, h.2.1, fun j x j1 j2 x1 x2 _ => ?_, h.2.2.2.1, h.2.2.2.2⟩
  rw [h.2.2.1 j x j1 j2 x1 x2 (by unfold z_pH; omega)]
  unfold z_eH
  show _ = r.2.2.2.2 (j * 21 + (c.1.1 + 1 + x) % 21)
  rw [if_pos (by omega)]
  by_cases q : x = 20
  · rw [if_pos q, q, show (c.1.1 + 1 + 20) % 21 = c.1.1 % 21 by omega, hz j j1 j2]
  · rw [if_neg q, show c.1.1 + 1 + x = c.1.1 + (x + 1) by omega]
