/-- the stages -/
theorem z_rl_st {c : z_Ct} {P : Int → Int → Prop} {e : Int → Int → Int} {b v : Int} {f : Int → Int} (h : z_rl c P e b f) (hrn : 0 ≤ c.2.1.1) (hsn : 0 ≤ c.2.2.1.1) : z_rl ((c.1.1, v, c.1.2.2.1, c.1.2.2.2.1, c.1.2.2.2.2.1, c.1.2.2.2.2.2.1, c.1.2.2.2.2.2.2), c.2.1, c.2.2.1, c.2.2.2.1, c.2.2.2.2.1, c.2.2.2.2.2.1, c.2.2.2.2.2.2.1, c.2.2.2.2.2.2.2) P e b (z_u f b v) := by
  obtain ⟨a1, a2, a3, a4, a5⟩ := h
  refine ⟨?_, ?_, ?_, ?_, ?_⟩
  · rw [z_u_ne (show ¬ (b + 1) = b by omega), z_u_ne (show ¬ (b + 2) = b by omega), z_u_ne (show ¬ (b + 3) = b by omega), z_u_ne (show ¬ (b + 4) = b by omega), z_u_ne (show ¬ (b + 5) = b by omega), z_u_ne (show ¬ (b + 6) = b by omega), z_u_ne (show ¬ (b + 7) = b by omega), z_u_ne (show ¬ (b + 8) = b by omega)]
    exact ⟨z_u_same _ _ _, a1.2.1, a1.2.2.1, a1.2.2.2.1, a1.2.2.2.2.1, a1.2.2.2.2.2.1, a1.2.2.2.2.2.2.1, a1.2.2.2.2.2.2.2.1, a1.2.2.2.2.2.2.2.2⟩
  · intro k k1 k2
    rw [z_u_ne (by omega), z_u_ne (by omega), z_u_ne (by omega)]
    exact a2 k k1 k2
  · intro k i k1 k2 i1 i2 hp
    rw [z_u_ne (by omega)]
    exact a3 k i k1 k2 i1 i2 hp
  · intro i i1 i2
    rw [z_u_ne (by omega)]
    exact a4 i i1 i2
  · intro i i1 i2
    rw [z_u_ne (by omega), z_u_ne (by omega), z_u_ne (by omega), z_u_ne (by omega)]
    exact a5 i i1 i2
theorem z_rel_shift {c : z_Ct} {b b' : Int} {f g : Int → Int} (h : z_rel c b f) (hrn : c.2.1.1 ≤ 99) (hsn : c.2.2.1.1 ≤ 32) (hg : ∀ j : Int, 0 ≤ j → j < 356 → g (b' + j) = f (b + j)) : z_rel c b' g := by
  obtain ⟨a1, a2, a3, a4, a5⟩ := h
  have e0 : g b' = f b := by
    have := hg 0 (by omega) (by omega)
    rwa [Int.add_zero, Int.add_zero] at this
  have e : ∀ (j i : Int), 0 ≤ j + i → j + i < 356 → g (b' + j + i) = f (b + j + i) := fun j i h1 h2 => by
    rw [Int.add_assoc, Int.add_assoc]
    exact hg (j + i) h1 h2
  refine ⟨?_, ?_, ?_, ?_, ?_⟩
  · rw [e0, hg 1 (by omega) (by omega), hg 2 (by omega) (by omega), hg 3 (by omega) (by omega), hg 4 (by omega) (by omega), hg 5 (by omega) (by omega), hg 6 (by omega) (by omega), hg 7 (by omega) (by omega), hg 8 (by omega) (by omega)]
    exact a1
  · intro k k1 k2
    rw [e 9 k (by omega) (by omega), e 14 k (by omega) (by omega), e 19 k (by omega) (by omega)]
    exact a2 k k1 k2
  · intro k i k1 k2 i1 i2 hp
    have h9 := hg (24 + 21 * k + i) (by omega) (by omega)
    rw [show b' + 24 + 21 * k + i = b' + (24 + 21 * k + i) by omega, h9, show b + (24 + 21 * k + i) = b + 24 + 21 * k + i by omega]
    exact a3 k i k1 k2 i1 i2 hp
  · intro i i1 i2
    rw [e 129 i (by omega) (by omega)]
    exact a4 i i1 i2
  · intro i i1 i2
    rw [show b' + 228 + 4 * i = b' + (228 + 4 * i) by omega, show b' + (228 + 4 * i) + 1 = b' + (228 + 4 * i + 1) by omega, show b' + (228 + 4 * i) + 2 = b' + (228 + 4 * i + 2) by omega, show b' + (228 + 4 * i) + 3 = b' + (228 + 4 * i + 3) by omega]
    rw [hg (228 + 4 * i) (by omega) (by omega), hg (228 + 4 * i + 1) (by omega) (by omega), hg (228 + 4 * i + 2) (by omega) (by omega), hg (228 + 4 * i + 3) (by omega) (by omega)]
    rw [show b + (228 + 4 * i) = b + 228 + 4 * i by omega, show b + (228 + 4 * i + 1) = b + 228 + 4 * i + 1 by omega, show b + (228 + 4 * i + 2) = b + 228 + 4 * i + 2 by omega, show b + (228 + 4 * i + 3) = b + 228 + 4 * i + 3 by omega]
    exact a5 i i1 i2
theorem z_rel_anew {c : z_Ct} {b : Int} {g : Int → Int} (h1 : g b = c.1.2.1 ∧ g (b + 1) = c.2.2.2.1 ∧ g (b + 2) = c.1.1 ∧ g (b + 3) = 0 ∧ g (b + 4) = -1 ∧ g (b + 5) = -1 ∧ g (b + 6) = 0 ∧ g (b + 7) = 0 ∧ g (b + 8) = 0) (h2 : ∀ k : Int, 0 ≤ k → k < 5 → g (b + 9 + k) = c.1.2.2.2.2.1 k) (h3 : ∀ j : Int, b + 14 ≤ j → j < b + 129 → g j = 0) : z_rel (z_anew c c.1.2.1) b g := by
  refine ⟨h1, fun k k1 k2 => ⟨h2 k k1 k2, ?_, h3 _ (by omega) (by omega)⟩, fun k i k1 k2 i1 i2 _ => h3 _ (by omega) (by omega), fun i i1 i2 => ?_, fun i i1 i2 => ?_⟩
  · rw [h3 _ (by omega) (by omega)]
    exact (z_bit0 k).symm
  · exact absurd (show i < 0 from i2) (by omega)
  · exact absurd (show i < 0 from i2) (by omega)
theorem z_rel_ck {c : z_Ct} {b : Int} {f : Int → Int} (h : z_rel c b f) (hok : z_ok c) : z_rel (z_take c) b (z_ck b f) ∧ z_fr b f (z_ck b f) ∧ z_ck b f (b + 3) = (c.2.2.2.2.1 + 1) % z_p2 c.1.2.1 := by
  obtain ⟨a1, a2, a3, a4, a5⟩ := h
  have hst := hok.1.2.1
  have hd := hok.1.2.2.2.1 0 (by omega) (by omega)
  have hrn := hok.2.1.1
  have hsn := hok.2.2.1.1
  have e0 : z_u f (b + 4) (f (b + 2)) b = c.1.2.1 := by rw [z_u_ne (by omega)]; exact a1.1
  have e3 : z_u f (b + 4) (f (b + 2)) (b + 3) = c.2.2.2.2.1 := by rw [z_u_ne (by omega)]; exact a1.2.2.2.1
  have e9 : z_u (z_u f (b + 4) (f (b + 2))) (b + 3) ((c.2.2.2.2.1 + 1) % z_p2 c.1.2.1) (b + 9 + 0) = c.1.2.2.2.2.1 0 := by
    rw [z_u_ne (by omega), z_u_ne (by omega)]
    exact (a2 0 (by omega) (by omega)).1
  have e : z_ck b f = z_u (z_u (z_u f (b + 4) c.1.1) (b + 3) ((c.2.2.2.2.1 + 1) % z_p2 c.1.2.1)) (b + 24 + c.1.2.2.2.2.1 0) (f (b + 24 + c.1.2.2.2.2.1 0) + 1) := by
    unfold z_ck z_tn
    rw [e0, e3, e9, a1.2.2.1, show b + 24 + 21 * 0 + c.1.2.2.2.2.1 0 = b + 24 + c.1.2.2.2.2.1 0 by omega]
    congr 2
    rw [z_u_ne (by omega), z_u_ne (by omega)]
  rw [e]
  refine ⟨⟨?_, ?_, ?_, ?_, ?_⟩, ?_, ?_⟩
  · refine ⟨?_, ?_, ?_, ?_, ?_, ?_, ?_, ?_, ?_⟩
    · rw [z_u_ne (by omega), z_u_ne (by omega), z_u_ne (by omega)]; exact a1.1
    · rw [z_u_ne (by omega), z_u_ne (by omega), z_u_ne (by omega)]; exact a1.2.1
    · rw [z_u_ne (by omega), z_u_ne (by omega), z_u_ne (by omega)]; exact a1.2.2.1
    · rw [z_u_ne (by omega), z_u_same]; rfl
    · rw [z_u_ne (by omega), z_u_ne (by omega), z_u_same]; rfl
    · rw [z_u_ne (by omega), z_u_ne (by omega), z_u_ne (by omega)]; exact a1.2.2.2.2.2.1
    · rw [z_u_ne (by omega), z_u_ne (by omega), z_u_ne (by omega)]; exact a1.2.2.2.2.2.2.1
    · rw [z_u_ne (by omega), z_u_ne (by omega), z_u_ne (by omega)]; exact a1.2.2.2.2.2.2.2.1
    · rw [z_u_ne (by omega), z_u_ne (by omega), z_u_ne (by omega)]; exact a1.2.2.2.2.2.2.2.2
  · intro k k1 k2
    rw [z_u_ne (by omega), z_u_ne (by omega), z_u_ne (by omega), z_u_ne (by omega), z_u_ne (by omega), z_u_ne (by omega), z_u_ne (by omega), z_u_ne (by omega), z_u_ne (by omega)]
    exact a2 k k1 k2
  · intro k i k1 k2 i1 i2 _
    have h9 := a3 k i k1 k2 i1 i2 trivial
    show _ = z_bg c.1.1 c.1.2.2.2.2.1 0 1 c.1.2.2.2.2.2.2 (k * 21 + (c.1.1 + i) % 21)
    unfold z_bg
    by_cases q : k = 0 ∧ i = c.1.2.2.2.2.1 0
    · have h8 : f (b + 24 + 21 * 0 + c.1.2.2.2.2.1 0) = c.1.2.2.2.2.2.2 (0 * 21 + (c.1.1 + c.1.2.2.2.2.1 0) % 21) := a3 0 (c.1.2.2.2.2.1 0) (by omega) (by omega) (by omega) (by omega) trivial
      rw [q.1, q.2, show b + 24 + 21 * 0 + c.1.2.2.2.2.1 0 = b + 24 + c.1.2.2.2.2.1 0 by omega, z_u_same, z_u_same, ← h8, show b + 24 + 21 * 0 + c.1.2.2.2.2.1 0 = b + 24 + c.1.2.2.2.2.1 0 by omega]
    · rw [z_u_ne (by omega), z_u_ne (by omega), z_u_ne (by omega), z_u_ne (by omega)]
      exact h9
  · intro i i1 i2
    have i2' : i < c.2.1.1 := i2
    rw [z_u_ne (by omega), z_u_ne (by omega), z_u_ne (by omega)]
    exact a4 i i1 i2'
  · intro i i1 i2
    have i2' : i < c.2.2.1.1 := i2
    rw [z_u_ne (by omega), z_u_ne (by omega), z_u_ne (by omega), z_u_ne (by omega), z_u_ne (by omega), z_u_ne (by omega), z_u_ne (by omega), z_u_ne (by omega), z_u_ne (by omega), z_u_ne (by omega), z_u_ne (by omega), z_u_ne (by omega)]
    exact a5 i i1 i2'
  · intro j hj
    rw [z_u_ne (by omega), z_u_ne (by omega), z_u_ne (by omega)]
  · rw [z_u_ne (by omega), z_u_same]
/-- what is remembered -/
def z_rem (f pf : Int → Int) (kn : Int) : Int → Int := fun j => if 356 * (if kn = 6 then 5 else kn) ≤ j ∧ j < 356 * (if kn = 6 then 5 else kn) + 356 then f (j - 356 * (if kn = 6 then 5 else kn)) else if kn = 6 ∧ 0 ≤ j ∧ j < 1780 then pf (356 + j) else pf j
def z_mh (kp od : Int) (hr : Int → z_Ct) (kn : Int) (pf : Int → Int) : Prop := kn = kp ∧ ∀ j : Int, 0 ≤ j → j < kp → z_rel (hr ((od + j) % 7)) (356 * j) pf
theorem z_mh_rem {c : z_Ct} {kp od kn r : Int} {hr : Int → z_Ct} {f pf : Int → Int} (h : z_mh kp od hr kn pf) (hkp : 0 ≤ kp ∧ kp ≤ 6) (hod : 0 ≤ od ∧ od < 7) (hrel : z_rel c 0 f) (hok : z_ok c) (hhr : ∀ j : Int, 0 ≤ j → j < 7 → z_ok (hr j)) (hr0 : ¬ r < 0) :
    z_mh (z_stK r kp) (z_stO r kp od) (z_uc hr ((od + kp) % 7) c) (if kn = 6 then 6 else kn + 1) (z_rem f pf kn) := by
  obtain ⟨rfl, h2⟩ := h
  unfold z_stK z_stO
  rw [if_neg hr0, if_neg hr0]
  by_cases q : kn = 6
  · rw [if_neg (by omega), if_neg (by omega), if_pos q]
    refine ⟨q.symm, fun j j1 j2 => ?_⟩
    have hi : ((od + 1) % 7 + j) % 7 = (od + (j + 1)) % 7 := by omega
    rw [hi]
    by_cases q2 : j = 5
    · rw [show z_uc hr ((od + kn) % 7) c ((od + (j + 1)) % 7) = c from if_pos (by omega)]
      refine z_rel_shift hrel (by have := hok.2.1.1; omega) (by have := hok.2.2.1.1; omega) (fun i i1 i2 => ?_)
      unfold z_rem
      rw [if_pos q, if_pos (by omega)]
      congr 1
      omega
    · rw [show z_uc hr ((od + kn) % 7) c ((od + (j + 1)) % 7) = hr ((od + (j + 1)) % 7) from if_neg (by omega)]
      have h9 := h2 (j + 1) (by omega) (by omega)
      have hk := hhr ((od + (j + 1)) % 7) (by omega) (by omega)
      refine z_rel_shift h9 (by have := hk.2.1.1; omega) (by have := hk.2.2.1.1; omega) (fun i i1 i2 => ?_)
      unfold z_rem
      rw [if_pos q, if_neg (by omega), if_pos (by omega)]
      congr 1
      omega
  · rw [if_pos (by omega), if_pos (by omega), if_neg q]
    refine ⟨rfl, fun j j1 j2 => ?_⟩
    by_cases q2 : j = kn
    · rw [show z_uc hr ((od + kn) % 7) c ((od + j) % 7) = c from if_pos (by rw [q2])]
      refine z_rel_shift hrel (by have := hok.2.1.1; omega) (by have := hok.2.2.1.1; omega) (fun i i1 i2 => ?_)
      unfold z_rem
      rw [if_neg q, if_pos (by omega)]
      congr 1
      omega
    · rw [show z_uc hr ((od + kn) % 7) c ((od + j) % 7) = hr ((od + j) % 7) from if_neg (by omega)]
      have h9 := h2 j (by omega) (by omega)
      have hk := hhr ((od + j) % 7) (by omega) (by omega)
      refine z_rel_shift h9 (by have := hk.2.1.1; omega) (by have := hk.2.2.1.1; omega) (fun i i1 i2 => ?_)
      unfold z_rem
      rw [if_neg q, if_neg (by omega), if_neg (by omega)]
theorem z_mh_err {c : z_Ct} {kp od kn r : Int} {hr : Int → z_Ct} {pf : Int → Int} (h : z_mh kp od hr kn pf) (hkp : 0 ≤ kp ∧ kp ≤ 6) (hod : 0 ≤ od ∧ od < 7) (hr0 : r < 0) : z_mh (z_stK r kp) (z_stO r kp od) (z_uc hr ((od + kp) % 7) c) kn pf := by
  unfold z_stK z_stO
  rw [if_pos hr0, if_pos hr0]
  refine ⟨h.1, fun j j1 j2 => ?_⟩
  rw [show z_uc hr ((od + kp) % 7) c ((od + j) % 7) = hr ((od + j) % 7) from if_neg (by omega)]
  exact h.2 j j1 j2
