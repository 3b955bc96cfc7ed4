/-! ===== a text is carried out ===== -/
theorem z_sg_mg {len k : Int} {sg : Int → Int} (hk : 0 ≤ k) (h : k < len) : z_sg len sg k = z_mg len sg k := by
  unfold z_sg z_mg
  rw [if_pos h, if_pos ⟨hk, h⟩]
theorem z_sg_out {len k : Int} {sg : Int → Int} (h : ¬ k < len) : z_sg len sg k = 0 := by
  unfold z_sg
  rw [if_neg (by omega)]
theorem z_sg_dg {len k : Int} {sg : Int → Int} (hk : 0 ≤ k) : (48 ≤ z_sg len sg k ∧ z_sg len sg k ≤ 57) ↔ 0 ≤ z_dg len sg k := by
  by_cases q : k < len
  · rw [z_sg_mg hk q]
    unfold z_dg
    split <;> omega
  · rw [z_sg_out q, z_dg_out q]
    omega
theorem z_mn_nm {len k : Int} {sg : Int → Int} (hk : 0 ≤ k) (h : 0 ≤ z_ne len sg k) (he : z_ne len sg k = len ∨ z_mg len sg (z_ne len sg k) = 59) : z_mn len sg k = z_nm len sg k := by
  have h0 : 0 ≤ z_dg len sg k := by
    unfold z_ne at h
    by_cases q : z_dg len sg k < 0
    · rw [if_pos q] at h; omega
    · omega
  have hs := (z_sg_dg hk).mpr h0
  have hin := z_dg_in (len := len) (sg := sg) (k := k) (by omega)
  have hsm := z_sg_mg (sg := sg) hk hin.1
  rw [z_mg_in hin.1] at hsm
  unfold z_nm z_mn
  rw [if_pos hs]
  have hne : z_ne len sg k = if 0 < z_dg len sg k ∧ 0 ≤ z_dg len sg (k + 1) then k + 2 else k + 1 := by
    unfold z_ne
    rw [if_neg (by omega)]
  by_cases q : 0 < z_dg len sg k ∧ 0 ≤ z_dg len sg (k + 1)
  · rw [if_pos q] at hne
    have hs1 := (z_sg_dg (len := len) (sg := sg) (k := k + 1) (by omega)).mpr q.2
    have hin1 := z_dg_in (len := len) (sg := sg) (k := k + 1) (by omega)
    have hsm1 := z_sg_mg (sg := sg) (show 0 ≤ k + 1 by omega) hin1.1
    rw [z_mg_in hin1.1] at hsm1
    rw [if_neg (by omega), if_pos hs1]
    omega
  · rw [if_neg q] at hne
    have hn1 : ¬ (48 ≤ z_sg len sg (k + 1) ∧ z_sg len sg (k + 1) ≤ 57) := fun z => by
      have z1 := (z_sg_dg (by omega)).mp z
      rw [hne] at he
      have hin1 := z_dg_in (len := len) (sg := sg) (k := k + 1) (by omega)
      rcases he with he | he
      · omega
      · rw [z_mg_in hin1.1] at he; omega
    rw [if_pos (by omega), if_neg hn1]
    omega
/-- an order that stands -/
def z_st (len : Int) (sg : Int → Int) (k : Int) : Prop := 0 ≤ z_oe len sg k ∧ (z_oe len sg k = len ∨ z_mg len sg (z_oe len sg k) = 59)
theorem z_st_ff {len k : Int} {sg : Int → Int} (hk : 0 ≤ k) (hl : k ≤ len) (h : z_ff len sg k 0 (len - k).toNat = -6) : z_st len sg k ∧ (z_oe len sg k = len ∨ (z_oe len sg k + 1 ≤ len ∧ z_ff len sg (z_oe len sg k + 1) 0 (len - (z_oe len sg k + 1)).toNat = -6)) := by
  rw [z_ff_0 hk hl] at h
  unfold z_fo at h
  by_cases q : z_oe len sg k < 0
  · rw [if_pos q] at h; omega
  · rw [if_neg q] at h
    by_cases q2 : z_oe len sg k = len
    · exact ⟨⟨by omega, Or.inl q2⟩, Or.inl q2⟩
    · rw [if_neg q2] at h
      by_cases q3 : z_mg len sg (z_oe len sg k) = 59
      · rw [if_neg (by omega)] at h
        have hb := z_oe_bd (sg := sg) hk hl (by omega)
        exact ⟨⟨by omega, Or.inr q3⟩, Or.inr ⟨by omega, h⟩⟩
      · rw [if_pos q3] at h; omega
/-- what stands at an order -/
theorem z_st_kind {len k : Int} {sg : Int → Int} (hk : 0 ≤ k) (h : z_st len sg k) : k < len ∧ z_sg len sg k = z_mg len sg k ∧ (z_mg len sg k = 99 ∨ z_mg len sg k = 116 ∨ z_mg len sg k = 100 ∨ z_mg len sg k = 114 ∨ z_mg len sg k = 119) ∧
    (z_mg len sg k = 99 → 0 ≤ z_dg len sg (k + 1) → z_mn len sg (k + 1) = z_nm len sg (k + 1)) ∧ (z_mg len sg k = 116 → z_mn len sg (k + 1) = z_nm len sg (k + 1)) ∧
    (z_mg len sg k = 100 → z_mn len sg (k + 3) = z_nm len sg (k + 3) ∧ 0 ≤ z_dg len sg (k + 1) ∧ z_dg len sg (k + 1) = z_sg len sg (k + 1) - 48) := by
  obtain ⟨h1, h2⟩ := h
  have hlt : k < len := by
    by_cases q : k < len
    · exact q
    · exfalso
      unfold z_oe at h1
      rw [z_mg_out q, if_neg (by omega), if_neg (by omega), if_neg (by omega), if_neg (by omega)] at h1
      omega
  refine ⟨hlt, z_sg_mg hk hlt, ?_, ?_, ?_, ?_⟩
  · by_cases q : z_mg len sg k = 99 ∨ z_mg len sg k = 116 ∨ z_mg len sg k = 100 ∨ z_mg len sg k = 114 ∨ z_mg len sg k = 119
    · exact q
    · exfalso
      unfold z_oe at h1
      rw [if_neg (by omega), if_neg (by omega), if_neg (by omega), if_neg (by omega)] at h1
      omega
  · intro c d
    have e : z_oe len sg k = z_ne len sg (k + 1) := by unfold z_oe; rw [if_pos c, if_neg (by omega)]
    rw [e] at h1 h2
    exact z_mn_nm (by omega) h1 h2
  · intro c
    have e : z_oe len sg k = z_ne len sg (k + 1) := by unfold z_oe; rw [if_neg (by omega), if_pos c]
    rw [e] at h1 h2
    exact z_mn_nm (by omega) h1 h2
  · intro c
    have e0 : z_oe len sg k = if z_dg len sg (k + 1) < 0 then -2 - k else if z_mg len sg (k + 2) = 61 then z_ne len sg (k + 3) else -3 - k := by unfold z_oe; rw [if_neg (by omega), if_neg (by omega), if_pos c]
    by_cases q : z_dg len sg (k + 1) < 0
    · rw [if_pos q] at e0; omega
    · rw [if_neg q] at e0
      by_cases q2 : z_mg len sg (k + 2) = 61
      · rw [if_pos q2] at e0
        rw [e0] at h1 h2
        have hin := z_dg_in q
        have hsm := z_sg_mg (sg := sg) (show 0 ≤ k + 1 by omega) hin.1
        rw [z_mg_in hin.1] at hsm
        exact ⟨z_mn_nm (by omega) h1 h2, by omega, by omega⟩
      · rw [if_neg q2] at e0; omega
theorem z_nm_r {len : Int} {sg : Int → Int} (h : ∀ i : Int, 0 ≤ i → i < len → 0 ≤ sg i ∧ sg i < 256) (k : Int) : 0 ≤ z_nm len sg k ∧ z_nm len sg k ≤ 99 := z_nm_rng h k
theorem z_c1_c {len k : Int} {sg : Int → Int} {ct : z_Ct} (hk : 0 ≤ k) (h1 : z_sg len sg k = 99) (h2 : z_dg len sg (k + 1) < 0) : z_c1 len sg ct k = (z_tc ct, z_tcA ct) := by
  unfold z_c1
  rw [if_pos h1, if_neg (fun z => by have := (z_sg_dg (len := len) (sg := sg) (k := k + 1) (by omega)).mp z; omega)]
theorem z_c1_row {len k : Int} {sg : Int → Int} {ct : z_Ct} (hk : 0 ≤ k) (h1 : z_sg len sg k = 99) (h2 : 0 ≤ z_dg len sg (k + 1)) : z_c1 len sg ct k = z_cap ct := by
  unfold z_c1
  rw [if_pos h1, if_pos ((z_sg_dg (by omega)).mpr h2)]
theorem z_c1_t {len k : Int} {sg : Int → Int} {ct : z_Ct} (h1 : z_sg len sg k = 116) : z_c1 len sg ct k = z_lp ct (z_nm len sg (k + 1)) := by
  unfold z_c1
  rw [if_neg (by omega), if_neg (by omega), if_neg (by omega), if_pos h1]
theorem z_c1_d {len k : Int} {sg : Int → Int} {ct : z_Ct} (h1 : z_sg len sg k = 100) : z_c1 len sg ct k = z_cd ct (z_sg len sg (k + 1) - 48) (z_nm len sg (k + 3)) := by
  unfold z_c1
  rw [if_neg (by omega), if_pos h1]
theorem z_c1_r {len k : Int} {sg : Int → Int} {ct : z_Ct} (h1 : z_sg len sg k = 114) : z_c1 len sg ct k = z_rg ct := by
  unfold z_c1
  rw [if_neg (by omega), if_neg (by omega), if_pos h1]
theorem z_c1_w {len k : Int} {sg : Int → Int} {ct : z_Ct} (h1 : z_sg len sg k = 119) : z_c1 len sg ct k = z_sl ct := by
  unfold z_c1
  rw [if_neg (by omega), if_neg (by omega), if_neg (by omega), if_neg (by omega), if_pos h1]
