/-! ===== texts, as the reference reads them ===== -/
def z_pr (len : Int) (sg pd : Int → Int) : Prop := ∀ i : Int, 0 ≤ i → i < len → pd i = sg i
def z_mg (len : Int) (sg : Int → Int) (k : Int) : Int := if k < len then sg k else -1
def z_dg (len : Int) (sg : Int → Int) (k : Int) : Int := if 48 ≤ z_mg len sg k ∧ z_mg len sg k ≤ 57 then z_mg len sg k - 48 else -1
def z_ne (len : Int) (sg : Int → Int) (k : Int) : Int := if z_dg len sg k < 0 then -1 - k else if 0 < z_dg len sg k ∧ 0 ≤ z_dg len sg (k + 1) then k + 2 else k + 1
def z_mn (len : Int) (sg : Int → Int) (k : Int) : Int := if z_ne len sg k = k + 1 then z_dg len sg k else 10 * z_dg len sg k + z_dg len sg (k + 1)
def z_oe (len : Int) (sg : Int → Int) (k : Int) : Int :=
  if z_mg len sg k = 99 then (if z_dg len sg (k + 1) < 0 then k + 1 else z_ne len sg (k + 1))
  else if z_mg len sg k = 116 then z_ne len sg (k + 1)
  else if z_mg len sg k = 100 then (if z_dg len sg (k + 1) < 0 then -2 - k else if z_mg len sg (k + 2) = 61 then z_ne len sg (k + 3) else -3 - k)
  else if z_mg len sg k = 114 ∨ z_mg len sg k = 119 then k + 1
  else -1 - k
theorem z_mg_rng {len : Int} {sg : Int → Int} (h : ∀ i : Int, 0 ≤ i → i < len → 0 ≤ sg i ∧ sg i < 256) {k : Int} (hk : 0 ≤ k) : -1 ≤ z_mg len sg k ∧ z_mg len sg k < 256 := by
  unfold z_mg
  split
  · have := h k hk (by omega); omega
  · omega
theorem z_dg_rng (len : Int) (sg : Int → Int) (k : Int) : -1 ≤ z_dg len sg k ∧ z_dg len sg k ≤ 9 := by
  unfold z_dg
  split <;> omega
theorem z_ne_rng (len : Int) (sg : Int → Int) (k : Int) : z_ne len sg k = -1 - k ∨ z_ne len sg k = k + 1 ∨ z_ne len sg k = k + 2 := by
  unfold z_ne
  (repeat' split) <;> omega
theorem z_oe_rng (len : Int) (sg : Int → Int) {k : Int} (hk : 0 ≤ k) : -4 - k ≤ z_oe len sg k ∧ z_oe len sg k ≤ k + 5 := by
  have h1 := z_ne_rng len sg (k + 1)
  have h3 := z_ne_rng len sg (k + 3)
  unfold z_oe
  (repeat' split) <;> omega
/-- a digit is within the text -/
theorem z_dg_in {len : Int} {sg : Int → Int} {k : Int} (h : ¬ z_dg len sg k < 0) : k < len ∧ 48 ≤ sg k ∧ sg k ≤ 57 ∧ z_dg len sg k = sg k - 48 := by
  unfold z_dg z_mg at *
  by_cases q : k < len
  · simp only [if_pos q] at *
    by_cases q2 : 48 ≤ sg k ∧ sg k ≤ 57
    · rw [if_pos q2]; omega
    · rw [if_neg q2] at h; omega
  · simp only [if_neg q] at h
    rw [if_neg (by omega)] at h
    omega
theorem z_dg_no {len : Int} {sg : Int → Int} {k : Int} (h : z_dg len sg k < 0) (hk : k < len) : ¬ (48 ≤ sg k ∧ sg k ≤ 57) := by
  intro q
  unfold z_dg z_mg at h
  rw [if_pos hk, if_pos q] at h
  omega
theorem z_dg_out {len : Int} {sg : Int → Int} {k : Int} (hk : ¬ k < len) : z_dg len sg k = -1 := by
  unfold z_dg z_mg
  rw [if_neg hk, if_neg (by omega)]
theorem z_mg_in {len : Int} {sg : Int → Int} {k : Int} (h : k < len) : z_mg len sg k = sg k := if_pos h
theorem z_mg_out {len : Int} {sg : Int → Int} {k : Int} (h : ¬ k < len) : z_mg len sg k = -1 := if_neg h
/-- the class's states, from within an order on -/
theorem z_ff_4 {len k : Int} {sg : Int → Int} (hk : 0 ≤ k) (hl : k ≤ len) : z_ff len sg k 4 (len - k).toNat = if k = len then -6 else if ¬ z_mg len sg k = 59 then k else z_ff len sg (k + 1) 0 (len - (k + 1)).toNat := by
  by_cases q : k = len
  · rw [if_pos q, q, Int.sub_self]; rfl
  · rw [if_neg q, z_mg_in (by omega)]
    by_cases q2 : sg k = 59
    · have h1 : z_pa 4 (sg k) = 0 := by unfold z_pa z_ao; rw [if_neg (by decide), if_neg (by decide), if_neg (by decide), if_neg (by decide), if_pos rfl, if_pos q2]
      rw [if_neg (by omega), z_ff_s (m := (len - (k + 1)).toNat) (by omega) (by omega), h1]
    · have h1 : z_pa 4 (sg k) = 7 := by unfold z_pa z_ao; rw [if_neg (by decide), if_neg (by decide), if_neg (by decide), if_neg (by decide), if_pos rfl, if_neg q2]
      rw [if_pos q2, z_ff_b (m := (len - (k + 1)).toNat) (by omega) h1]
/-- what an order's end tells -/
def z_fo (len : Int) (sg : Int → Int) (e : Int) : Int := if e < 0 then -1 - e else if e = len then -6 else if ¬ z_mg len sg e = 59 then e else z_ff len sg (e + 1) 0 (len - (e + 1)).toNat
theorem z_ff_2 {len k : Int} {sg : Int → Int} (hk : 0 ≤ k) (hl : k ≤ len) : z_ff len sg k 2 (len - k).toNat = z_fo len sg (z_ne len sg k) := by
  unfold z_ne
  by_cases q : z_dg len sg k < 0
  · rw [if_pos q]
    have h0 : z_fo len sg (-1 - k) = k := by unfold z_fo; rw [if_pos (by omega)]; omega
    rw [h0]
    by_cases q2 : k < len
    · have h1 : z_pa 2 (sg k) = 7 := by unfold z_pa z_af; rw [if_neg (by decide), if_neg (by decide), if_pos rfl, if_neg (z_dg_no q q2)]
      rw [z_ff_b (m := (len - (k + 1)).toNat) (by omega) h1]
    · rw [show k = len by omega, Int.sub_self]
      show (if (2 : Int) = 1 ∨ (2 : Int) = 3 ∨ (2 : Int) = 4 then (-6 : Int) else len) = len
      rw [if_neg (by omega)]
  · rw [if_neg q]
    obtain ⟨d1, d2, d3, d4⟩ := z_dg_in q
    by_cases q3 : sg k = 48
    · have h1 : z_pa 2 (sg k) = 4 := by unfold z_pa z_af; rw [if_neg (by decide), if_neg (by decide), if_pos rfl, if_pos (by omega), if_pos q3]
      rw [if_neg (by omega), z_ff_s (m := (len - (k + 1)).toNat) (by omega) (by omega), h1, z_ff_4 (by omega) (by omega)]
      unfold z_fo
      rw [if_neg (show ¬ k + 1 < 0 by omega)]
    · have h1 : z_pa 2 (sg k) = 3 := by unfold z_pa z_af; rw [if_neg (by decide), if_neg (by decide), if_pos rfl, if_pos (by omega), if_neg q3]
      rw [z_ff_s (m := (len - (k + 1)).toNat) (by omega) (by omega), h1]
      by_cases q4 : z_dg len sg (k + 1) < 0
      · rw [if_neg (by omega)]
        unfold z_fo
        rw [if_neg (show ¬ k + 1 < 0 by omega)]
        by_cases q5 : k + 1 = len
        · rw [if_pos q5, show (len - (k + 1)).toNat = 0 by omega]; rfl
        · have hn := z_dg_no q4 (by omega)
          rw [if_neg q5, z_mg_in (by omega)]
          by_cases q6 : sg (k + 1) = 59
          · have h2 : z_pa 3 (sg (k + 1)) = 0 := by unfold z_pa z_ao; rw [if_neg (by decide), if_neg (by decide), if_neg (by decide), if_pos rfl, if_neg hn, if_pos q6]
            rw [if_neg (by omega), z_ff_s (m := (len - (k + 1 + 1)).toNat) (by omega) (by omega), h2]
          · have h2 : z_pa 3 (sg (k + 1)) = 7 := by unfold z_pa z_ao; rw [if_neg (by decide), if_neg (by decide), if_neg (by decide), if_pos rfl, if_neg hn, if_neg q6]
            rw [if_pos q6, z_ff_b (m := (len - (k + 1 + 1)).toNat) (by omega) h2]
      · obtain ⟨e1, e2, e3, e4⟩ := z_dg_in q4
        have h2 : z_pa 3 (sg (k + 1)) = 4 := by unfold z_pa; rw [if_neg (by decide), if_neg (by decide), if_neg (by decide), if_pos rfl, if_pos (by omega)]
        rw [if_pos (by omega), z_ff_s (m := (len - (k + 1 + 1)).toNat) (by omega) (by omega), h2, show k + 1 + 1 = k + 2 by omega, z_ff_4 (by omega) (by omega)]
        unfold z_fo
        rw [if_neg (show ¬ k + 2 < 0 by omega)]
theorem z_ff_0 {len k : Int} {sg : Int → Int} (hk : 0 ≤ k) (hl : k ≤ len) : z_ff len sg k 0 (len - k).toNat = z_fo len sg (z_oe len sg k) := by
  by_cases q : k = len
  · have h1 : z_oe len sg k = -1 - k := by
      unfold z_oe
      rw [z_mg_out (by omega), if_neg (by omega), if_neg (by omega), if_neg (by omega), if_neg (by omega)]
    rw [h1, q, Int.sub_self]
    unfold z_fo
    rw [if_pos (by omega)]
    show (if (0 : Int) = 1 ∨ (0 : Int) = 3 ∨ (0 : Int) = 4 then (-6 : Int) else len) = -1 - (-1 - len)
    rw [if_neg (by omega)]
    omega
  · have hal : z_pa 0 (sg k) = z_al (sg k) := if_pos rfl
    have hlt : k < len := by omega
    unfold z_oe
    rw [z_mg_in hlt]
    by_cases c1 : sg k = 99
    · have h1 : z_pa 0 (sg k) = 1 := by rw [hal]; unfold z_al; rw [if_pos c1]
      rw [if_pos c1, z_ff_s (m := (len - (k + 1)).toNat) (by omega) (by omega), h1]
      by_cases c2 : z_dg len sg (k + 1) < 0
      · rw [if_pos c2]
        unfold z_fo
        rw [if_neg (show ¬ k + 1 < 0 by omega)]
        by_cases q5 : k + 1 = len
        · rw [if_pos q5, show (len - (k + 1)).toNat = 0 by omega]; rfl
        · have hn := z_dg_no c2 (by omega)
          rw [if_neg q5, z_mg_in (by omega)]
          by_cases q6 : sg (k + 1) = 59
          · have h2 : z_pa 1 (sg (k + 1)) = 0 := by unfold z_pa z_ao; rw [if_neg (by decide), if_pos rfl, if_neg hn, if_pos q6]
            rw [if_neg (by omega), z_ff_s (m := (len - (k + 1 + 1)).toNat) (by omega) (by omega), h2]
          · have h2 : z_pa 1 (sg (k + 1)) = 7 := by unfold z_pa z_ao; rw [if_neg (by decide), if_pos rfl, if_neg hn, if_neg q6]
            rw [if_pos q6, z_ff_b (m := (len - (k + 1 + 1)).toNat) (by omega) h2]
      · obtain ⟨e1, e2, e3, e4⟩ := z_dg_in c2
        rw [if_neg c2, ← z_ff_2 (by omega) (by omega)]
        have h2 : z_pa 1 (sg (k + 1)) = z_pa 2 (sg (k + 1)) := by unfold z_pa; rw [if_neg (by decide), if_pos rfl, if_pos (by omega), if_neg (by decide), if_neg (by decide), if_pos rfl]
        have h3 : ¬ z_pa 2 (sg (k + 1)) = 7 := by unfold z_pa z_af; rw [if_neg (by decide), if_neg (by decide), if_pos rfl, if_pos (by omega)]; split <;> omega
        rw [z_ff_s (m := (len - (k + 1 + 1)).toNat) (by omega) (by rw [h2]; exact h3), z_ff_s (m := (len - (k + 1 + 1)).toNat) (q := 2) (by omega) h3, h2]
    · rw [if_neg c1]
      by_cases c3 : sg k = 116
      · have h1 : z_pa 0 (sg k) = 2 := by rw [hal]; unfold z_al; rw [if_neg c1, if_pos c3]
        rw [if_pos c3, z_ff_s (m := (len - (k + 1)).toNat) (by omega) (by omega), h1, z_ff_2 (by omega) (by omega)]
      · rw [if_neg c3]
        by_cases c4 : sg k = 100
        · have h1 : z_pa 0 (sg k) = 5 := by rw [hal]; unfold z_al; rw [if_neg c1, if_neg c3, if_pos c4]
          rw [if_pos c4, z_ff_s (m := (len - (k + 1)).toNat) (by omega) (by omega), h1]
          by_cases c5 : z_dg len sg (k + 1) < 0
          · rw [if_pos c5]
            have h0 : z_fo len sg (-2 - k) = k + 1 := by unfold z_fo; rw [if_pos (by omega)]; omega
            rw [h0]
            by_cases q2 : k + 1 < len
            · have h2 : z_pa 5 (sg (k + 1)) = 7 := by unfold z_pa; rw [if_neg (by decide), if_neg (by decide), if_neg (by decide), if_neg (by decide), if_neg (by decide), if_pos rfl, if_neg (z_dg_no c5 q2)]
              rw [z_ff_b (m := (len - (k + 1 + 1)).toNat) (by omega) h2]
            · rw [show (len - (k + 1)).toNat = 0 by omega]
              show (if (5 : Int) = 1 ∨ (5 : Int) = 3 ∨ (5 : Int) = 4 then (-6 : Int) else len) = k + 1
              rw [if_neg (by omega)]; omega
          · obtain ⟨e1, e2, e3, e4⟩ := z_dg_in c5
            have h2 : z_pa 5 (sg (k + 1)) = 6 := by unfold z_pa; rw [if_neg (by decide), if_neg (by decide), if_neg (by decide), if_neg (by decide), if_neg (by decide), if_pos rfl, if_pos (by omega)]
            rw [if_neg c5, z_ff_s (m := (len - (k + 2)).toNat) (by omega) (by omega), h2, show k + 1 + 1 = k + 2 by omega]
            by_cases q2 : k + 2 < len
            · rw [z_mg_in q2]
              by_cases q3 : sg (k + 2) = 61
              · have h3 : z_pa 6 (sg (k + 2)) = 2 := by unfold z_pa; rw [if_neg (by decide), if_neg (by decide), if_neg (by decide), if_neg (by decide), if_neg (by decide), if_neg (by decide), if_pos rfl, if_pos q3]
                rw [if_pos q3, z_ff_s (m := (len - (k + 3)).toNat) (by omega) (by omega), h3, show k + 2 + 1 = k + 3 by omega, z_ff_2 (by omega) (by omega)]
              · have h3 : z_pa 6 (sg (k + 2)) = 7 := by unfold z_pa; rw [if_neg (by decide), if_neg (by decide), if_neg (by decide), if_neg (by decide), if_neg (by decide), if_neg (by decide), if_pos rfl, if_neg q3]
                rw [if_neg q3, z_ff_b (m := (len - (k + 3)).toNat) (by omega) h3]
                unfold z_fo
                rw [if_pos (by omega)]; omega
            · rw [z_mg_out q2, if_neg (by decide), show (len - (k + 2)).toNat = 0 by omega]
              unfold z_fo
              rw [if_pos (by omega)]
              show (if (6 : Int) = 1 ∨ (6 : Int) = 3 ∨ (6 : Int) = 4 then (-6 : Int) else len) = _
              rw [if_neg (by omega)]; omega
        · rw [if_neg c4]
          by_cases c6 : sg k = 114 ∨ sg k = 119
          · have h1 : z_pa 0 (sg k) = 4 := by rw [hal]; unfold z_al; rw [if_neg c1, if_neg c3, if_neg c4]; (repeat' split) <;> omega
            rw [if_pos c6, z_ff_s (m := (len - (k + 1)).toNat) (by omega) (by omega), h1, z_ff_4 (by omega) (by omega)]
            unfold z_fo
            rw [if_neg (show ¬ k + 1 < 0 by omega)]
          · have h1 : z_pa 0 (sg k) = 7 := by rw [hal]; unfold z_al; rw [if_neg c1, if_neg c3, if_neg c4, if_neg (by omega), if_neg (by omega)]
            rw [if_neg c6, z_ff_b (m := (len - (k + 1)).toNat) (by omega) h1]
            unfold z_fo
            rw [if_pos (by omega)]; omega
theorem z_ne_bd {len k : Int} {sg : Int → Int} (h : 0 ≤ z_ne len sg k) (hk : 0 ≤ k) : k < len ∧ k + 1 ≤ z_ne len sg k ∧ z_ne len sg k ≤ len := by
  unfold z_ne at *
  by_cases q : z_dg len sg k < 0
  · rw [if_pos q] at h; omega
  · have h1 := z_dg_in q
    rw [if_neg q]
    by_cases q2 : 0 < z_dg len sg k ∧ 0 ≤ z_dg len sg (k + 1)
    · have h2 := z_dg_in (len := len) (sg := sg) (k := k + 1) (by omega)
      rw [if_pos q2]; omega
    · rw [if_neg q2]; omega
/-- an order's end is within the text -/
theorem z_oe_bd {len k : Int} {sg : Int → Int} (hk : 0 ≤ k) (hl : k ≤ len) (h : 0 ≤ z_oe len sg k) : k < len ∧ k + 1 ≤ z_oe len sg k ∧ z_oe len sg k ≤ len := by
  by_cases q : k < len
  · refine ⟨q, ?_⟩
    unfold z_oe at *
    by_cases c1 : z_mg len sg k = 99
    · simp only [if_pos c1] at *
      by_cases c2 : z_dg len sg (k + 1) < 0
      · rw [if_pos c2]; omega
      · simp only [if_neg c2] at *
        have := z_ne_bd h (by omega); omega
    · simp only [if_neg c1] at *
      by_cases c3 : z_mg len sg k = 116
      · simp only [if_pos c3] at *
        have := z_ne_bd h (by omega); omega
      · simp only [if_neg c3] at *
        by_cases c4 : z_mg len sg k = 100
        · simp only [if_pos c4] at *
          by_cases c5 : z_dg len sg (k + 1) < 0
          · rw [if_pos c5] at h; omega
          · simp only [if_neg c5] at *
            by_cases c6 : z_mg len sg (k + 2) = 61
            · simp only [if_pos c6] at *
              have := z_ne_bd h (by omega); omega
            · rw [if_neg c6] at h; omega
        · simp only [if_neg c4] at *
          by_cases c7 : z_mg len sg k = 114 ∨ z_mg len sg k = 119
          · rw [if_pos c7]; omega
          · rw [if_neg c7] at h; omega
  · exfalso
    unfold z_oe at h
    rw [z_mg_out q, if_neg (by omega), if_neg (by omega), if_neg (by omega), if_neg (by omega)] at h
    omega
