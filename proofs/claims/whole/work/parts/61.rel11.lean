/-- an order has no semicolon in it -/
theorem z_ne_no {len k j : Int} {sg : Int → Int} (h : 0 ≤ z_ne len sg k) (h1 : k ≤ j) (h2 : j < z_ne len sg k) (hk : 0 ≤ k) : ¬ sg j = 59 := by
  unfold z_ne at h h2
  by_cases q : z_dg len sg k < 0
  · rw [if_pos q] at h; omega
  · have d := z_dg_in q
    rw [if_neg q] at h2
    by_cases q2 : 0 < z_dg len sg k ∧ 0 ≤ z_dg len sg (k + 1)
    · have d2 := z_dg_in (len := len) (sg := sg) (k := k + 1) (by omega)
      rw [if_pos q2] at h2
      by_cases q3 : j = k
      · rw [q3]; omega
      · rw [show j = k + 1 by omega]; omega
    · rw [if_neg q2] at h2
      rw [show j = k by omega]; omega
theorem z_st_no {len k j : Int} {sg : Int → Int} (hk : 0 ≤ k) (h : z_st len sg k) (h1 : k ≤ j) (h2 : j < z_oe len sg k) : ¬ sg j = 59 := by
  obtain ⟨hlt, hsm, hkd, -, -, hd⟩ := z_st_kind hk h
  have h0 := h.1
  have hm := z_mg_in (sg := sg) hlt
  by_cases q : j = k
  · rw [q]; omega
  · unfold z_oe at h2 h0
    by_cases c1 : z_mg len sg k = 99
    · simp only [if_pos c1] at h2 h0
      by_cases c2 : z_dg len sg (k + 1) < 0
      · rw [if_pos c2] at h2; omega
      · simp only [if_neg c2] at h2 h0
        exact z_ne_no h0 (by omega) h2 (by omega)
    · simp only [if_neg c1] at h2 h0
      by_cases c3 : z_mg len sg k = 116
      · simp only [if_pos c3] at h2 h0
        exact z_ne_no h0 (by omega) h2 (by omega)
      · simp only [if_neg c3] at h2 h0
        by_cases c4 : z_mg len sg k = 100
        · simp only [if_pos c4] at h2 h0
          by_cases c5 : z_dg len sg (k + 1) < 0
          · rw [if_pos c5] at h0; omega
          · simp only [if_neg c5] at h2 h0
            have d := z_dg_in c5
            by_cases c6 : z_mg len sg (k + 2) = 61
            · simp only [if_pos c6] at h2 h0
              by_cases q2 : j = k + 1
              · rw [q2]; omega
              · by_cases q3 : j = k + 2
                · have h9 : k + 2 < len := by
                    by_cases q4 : k + 2 < len
                    · exact q4
                    · rw [z_mg_out q4] at c6; omega
                  rw [z_mg_in h9] at c6
                  rw [q3]; omega
                · exact z_ne_no h0 (by omega) h2 (by omega)
            · rw [if_neg c6] at h0; omega
        · simp only [if_neg c4] at h2 h0
          by_cases c7 : z_mg len sg k = 114 ∨ z_mg len sg k = 119
          · rw [if_pos c7] at h2; omega
          · rw [if_neg c7] at h0; omega
theorem z_co_skip {len : Int} {sg : Int → Int} {ct : z_Ct} {c : Int} : ∀ (m r : Nat) (a : Int), (∀ j : Int, a ≤ j → j < a + m → z_oa len sg j = 0) → z_co len sg ct c a (m + r) = z_co len sg ct c (a + m) r
  | 0, r, a, _ => by rw [Nat.zero_add, show a + ((0 : Nat) : Int) = a by omega]
  | m + 1, r, a, h => by
    rw [z_co_s (m := m + r) (by omega), h a (by omega) (by omega)]
    have h1 : z_ci len sg ct c a (0 : Int).toNat = (ct, c, true) := rfl
    rw [h1, if_pos rfl]
    rw [z_co_skip m r (a + 1) (fun j j1 j2 => h j (by omega) (by omega)), show a + 1 + (m : Int) = a + ((m + 1 : Nat) : Int) by omega]
/-- from an order to the next -/
theorem z_co_nx {len k n : Int} {sg : Int → Int} {ct : z_Ct} (hk : 0 ≤ k) (h : z_st len sg k) : z_co len sg ct n (k + 1) (len - (k + 1)).toNat = if z_oe len sg k = len then (ct, n) else z_co len sg ct n (z_oe len sg k + 1) (len - (z_oe len sg k + 1)).toNat := by
  have hlt := (z_st_kind hk h).1
  have hb := z_oe_bd hk (by omega) h.1
  have hoa : ∀ j : Int, k + 1 ≤ j → j ≤ z_oe len sg k → z_oa len sg j = 0 := fun j j1 j2 => by
    have h9 := z_st_no hk h (j := j - 1) (by omega) (by omega)
    unfold z_oa
    rw [if_pos ⟨by omega, fun z => by rw [z_sg_mg (by omega) (by omega), z_mg_in (by omega)] at z; exact h9 z⟩]
  by_cases q : z_oe len sg k = len
  · rw [if_pos q]
    have h1 := z_co_skip (len := len) (sg := sg) (ct := ct) (c := n) (len - (k + 1)).toNat 0 (k + 1) (fun j j1 j2 => hoa j j1 (by omega))
    rw [Nat.add_zero] at h1
    rw [h1]
    rfl
  · rw [if_neg q]
    have h1 := z_co_skip (len := len) (sg := sg) (ct := ct) (c := n) (z_oe len sg k - k).toNat (len - (z_oe len sg k + 1)).toNat (k + 1) (fun j j1 j2 => hoa j j1 (by omega))
    rw [show (z_oe len sg k - k).toNat + (len - (z_oe len sg k + 1)).toNat = (len - (k + 1)).toNat by omega, show k + 1 + ((z_oe len sg k - k).toNat : Int) = z_oe len sg k + 1 by omega] at h1
    exact h1
/-- how often an order is carried out -/
theorem z_oa_st {len k : Int} {sg : Int → Int} (hk : 0 ≤ k) (h : z_st len sg k) (hs : k = 0 ∨ sg (k - 1) = 59) : z_oa len sg k = if z_mg len sg k = 99 ∧ 0 ≤ z_dg len sg (k + 1) then z_mn len sg (k + 1) else 1 := by
  obtain ⟨hlt, hsm, hkd, hc, -, -⟩ := z_st_kind hk h
  unfold z_oa
  rw [if_neg (fun z => by
    rcases hs with hs | hs
    · omega
    · rw [z_sg_mg (by omega) (by omega), z_mg_in (by omega)] at z; exact z.2 hs), hsm]
  by_cases q : z_mg len sg k = 99 ∧ 0 ≤ z_dg len sg (k + 1)
  · rw [if_pos q, if_pos ⟨q.1, (z_sg_dg (by omega)).mpr q.2⟩, hc q.1 q.2]
  · rw [if_neg q, if_neg (fun z => q ⟨z.1, (z_sg_dg (by omega)).mp z.2⟩)]
/-- where the carrying out stands -/
def z_cs9 (len : Int) (sg : Int → Int) (CO : z_Ct × Int) (go : Int) (c : z_Ct) (n k : Int) : Prop := 0 ≤ k ∧ (go = 0 ∨ go = 1) ∧ (go = 0 → CO = (c, n)) ∧ (go = 1 → (len ≤ k ∧ CO = (c, n)) ∨ (k < len ∧ (k = 0 ∨ sg (k - 1) = 59) ∧ z_ff len sg k 0 (len - k).toNat = -6 ∧ CO = z_co len sg c n k (len - k).toNat))
def z_ci9 (len : Int) (sg : Int → Int) (c : z_Ct) (n k M : Int) (go : Int) (c2 : z_Ct) (n2 i : Int) : Prop := (0 ≤ i ∧ (i ≤ M ∨ i = 0)) ∧ ((go = 1 ∧ z_ci len sg c n k M.toNat = z_ci len sg c2 n2 k (M - i).toNat) ∨ (go = 0 ∧ z_ci len sg c n k M.toNat = (c2, n2, false)))
theorem z_cs9_0 {len : Int} {sg : Int → Int} {ct : z_Ct} (hl : 0 ≤ len) (h : z_ff len sg 0 0 len.toNat = -6) : z_cs9 len sg (z_co len sg ct 0 0 len.toNat) 1 ct 0 0 := by
  have h1 := z_st_ff (len := len) (sg := sg) (k := 0) (by omega) hl (by rw [Int.sub_zero]; exact h)
  have h2 := (z_st_kind (by omega) h1.1).1
  exact ⟨by omega, Or.inr rfl, fun z => by omega, fun _ => Or.inr ⟨h2, Or.inl rfl, by rw [Int.sub_zero]; exact h, by rw [Int.sub_zero]⟩⟩
theorem z_cs9_n {len k n n2 i : Int} {sg : Int → Int} {c c2 : z_Ct} {CO : z_Ct × Int} {go : Int} (h : z_cs9 len sg CO 1 c n k) (hk : k < len) (hi : z_ci9 len sg c n k (z_oa len sg k) go c2 n2 i) (he : ¬ i < z_oa len sg k ∨ go = 0) : z_cs9 len sg CO go c2 n2 (z_oe len sg k + 1) := by
  obtain ⟨a1, -, -, a4⟩ := h
  rcases a4 rfl with ⟨b1, -⟩ | ⟨b1, b2, b3, b4⟩
  · omega
  · obtain ⟨hst, hnx⟩ := z_st_ff a1 (by omega) b3
    have hb := z_oe_bd a1 (by omega) hst.1
    rw [z_co_s (m := (len - (k + 1)).toNat) (by omega)] at b4
    rcases hi with ⟨hi0, ⟨g1, g2⟩ | ⟨g1, g2⟩⟩
    · have h0 : z_ci len sg c2 n2 k (z_oa len sg k - i).toNat = (c2, n2, true) := by
        rw [show (z_oa len sg k - i).toNat = 0 by omega]; rfl
      rw [g2, h0, if_pos rfl] at b4
      rw [z_co_nx a1 hst] at b4
      refine ⟨by omega, Or.inr g1, fun z => by omega, fun _ => ?_⟩
      by_cases q : z_oe len sg k = len
      · rw [if_pos q] at b4
        exact Or.inl ⟨by omega, b4⟩
      · rw [if_neg q] at b4
        rcases hnx with z | z
        · exact absurd z q
        · have z2 := (z_st_kind (by omega) (z_st_ff (by omega) z.1 z.2).1).1
          refine Or.inr ⟨z2, Or.inr ?_, z.2, b4⟩
          rcases hst.2 with z3 | z3
          · exact absurd z3 q
          · rw [z_mg_in (by omega)] at z3
            rw [show z_oe len sg k + 1 - 1 = z_oe len sg k by omega]
            exact z3
    · rw [g2, if_neg (show ¬ (false = true) by decide)] at b4
      exact ⟨by omega, Or.inl g1, fun _ => b4, fun z => by omega⟩
theorem z_ci9_s {len k n n2 i M r : Int} {sg : Int → Int} {c c2 : z_Ct} (h : z_ci9 len sg c n k M 1 c2 n2 i) (hi : i < M) (hr : r = 0 ↔ ¬ (z_c1 len sg c2 k).2 < 0) : z_ci9 len sg c n k M (if r = 0 then 1 else 0) (z_c1 len sg c2 k).1 (n2 + (if r = 0 then 1 else 0)) (i + 1) := by
  obtain ⟨h0, ⟨g1, g2⟩ | ⟨g1, g2⟩⟩ := h
  · refine ⟨by omega, ?_⟩
    by_cases q : r = 0
    · rw [if_pos q]
      refine Or.inl ⟨rfl, ?_⟩
      rw [g2, z_ci_s (m := (M - (i + 1)).toNat) (by omega) (hr.mp q)]
    · rw [if_neg q]
      refine Or.inr ⟨rfl, ?_⟩
      rw [g2, z_ci_b (m := (M - (i + 1)).toNat) (by omega) (by omega), Int.add_zero]
  · omega
