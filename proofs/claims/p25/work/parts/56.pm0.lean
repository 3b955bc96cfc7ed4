/-! ===== what always holds of a counter, beside: the count by the turnings, what was seen in its order, readings in theirs ===== -/
def x_sk (ct : z_Ct) : Prop := (∀ i j : Int, 0 ≤ i → i < j → j < ct.2.2.1.1 → ct.2.2.1.2.2.2.2 (ct.2.2.1.2.1 i) < ct.2.2.1.2.2.2.2 (ct.2.2.1.2.1 j)) ∧ (∀ i : Int, 0 ≤ i → i < ct.2.2.1.1 → ct.2.2.1.2.1 i < z_p2 ct.1.2.1 ∧ 0 ≤ ct.2.2.1.2.2.2.2 (ct.2.2.1.2.1 i) ∧ ct.2.2.1.2.2.2.2 (ct.2.2.1.2.1 i) < ct.1.1)
def x_rk (ct : z_Ct) : Prop := ∀ i j : Int, 0 ≤ i → i ≤ j → j < ct.2.1.1 → ct.2.1.2.2.1 i ≤ ct.2.1.2.2.1 j
def x_ok (ct : z_Ct) : Prop := z_ok ct ∧ ct.2.2.2.2.1 = (ct.1.2.2.2.2.2.1 0 + z_S ct.1.2.2.2.2.2.2 0 21) % z_p2 ct.1.2.1 ∧ (ct.2.2.2.2.2.1 = ct.1.1 → 0 < ct.1.2.2.2.1) ∧ x_sk ct ∧ x_rk ct
theorem x_anew {ct : z_Ct} (h : x_ok ct) {k : Int} (hk : 1 ≤ k ∧ k ≤ 5) : x_ok (z_anew ct k) := by
  have h0 := z_ok_anew h.1 hk
  have ht := h.1.1.1
  refine ⟨h0, ?_, ?_, ⟨?_, ?_⟩, ?_⟩
  · show (0 : Int) = (0 + z_S (fun _ => (0 : Int)) 0 21) % z_p2 k
    rw [z_S_zero 21 (fun _ _ _ => rfl)]
    exact (Int.zero_emod _).symm
  · intro q
    have q' : (-1 : Int) = ct.1.1 := q
    omega
  · intro i j i1 i2 i3
    have i3' : j < 0 := i3
    omega
  · intro i i1 i2
    have i2' : i < 0 := i2
    omega
  · intro i j i1 i2 i3
    have i3' : j < 0 := i3
    omega
theorem x_hold {ct : z_Ct} (h : x_ok ct) (ht : ct.1.1 ≤ 9999) {k : Int} (hk : 0 ≤ k ∧ k ≤ 20) : x_ok (z_chg ct 1 k).1 := by
  have h0 := (z_chg_ok h.1 ht 1 k).1
  have e : (z_chg ct 1 k).1 = (ct.1, ct.2.1, ct.2.2.1, k, ct.2.2.2.2.1, ct.2.2.2.2.2.1, ct.2.2.2.2.2.2.1, ct.2.2.2.2.2.2.2) := by
    show (if (1 : Int) = 0 then z_cs ct k else if (1 : Int) = 1 then z_chh ct k else (ct, -2)).1 = _
    rw [if_neg (by decide), if_pos rfl]
    unfold z_chh
    rw [if_pos hk]
  rw [e] at h0 ⊢
  exact ⟨h0, h.2⟩
theorem x_cd {ct : z_Ct} (h : x_ok ct) (ht : ct.1.1 ≤ 9999) (k v : Int) : x_ok (z_cd ct k v).1 := by
  have h0 := (z_cd_ok h.1 ht k v).1
  unfold z_cd at h0 ⊢
  by_cases q : 0 ≤ k ∧ k < ct.1.2.1
  · rw [if_pos q] at h0 ⊢
    by_cases q2 : 1 ≤ v ∧ v ≤ 20
    · rw [if_pos q2] at h0 ⊢
      exact ⟨h0, h.2⟩
    · rw [if_neg q2]; exact h
  · rw [if_neg q]; exact h
theorem x_take {ct : z_Ct} (h : x_ok ct) (h1 : ¬ ct.2.2.2.2.2.1 = ct.1.1) : x_ok (z_take ct) := by
  have h0 := z_ok_take h.1 h1
  have hw := h.1.1
  have hd0 := hw.2.2.2.1 0 (by omega) (by omega)
  have ht := hw.1
  have how := z_wok_ow hw
  refine ⟨h0, ?_, ?_, h.2.2.2.1, h.2.2.2.2⟩
  · show (ct.2.2.2.2.1 + 1) % z_p2 ct.1.2.1 = (ct.1.2.2.2.2.2.1 0 + z_S (z_bg ct.1.1 ct.1.2.2.2.2.1 0 1 ct.1.2.2.2.2.2.2) 0 21) % z_p2 ct.1.2.1
    unfold z_bg
    rw [z_S_u, if_pos (by omega), h.2.1, Int.emod_add_emod]
    congr 1
    omega
  · intro _
    show 0 < ct.1.2.2.2.1 + 1
    omega
/-- a stage's turnings: clocks that came to the first stage stay, what is counted is what was done -/
theorem x_td_s {t st k : Int} {dl : Int → Int} {r : z_R} (hk : 0 ≤ k ∧ k < st) (hst : st ≤ 5) (ht : 0 ≤ t) (hdl : ∀ j : Int, 0 ≤ j → j < 5 → 1 ≤ dl j ∧ dl j ≤ 20) : (z_tdS t st dl k r).2.2.2.1 0 + z_S (z_tdS t st dl k r).2.2.2.2 0 21 = r.2.2.2.1 0 + z_S r.2.2.2.2 0 21 ∧ (z_tdS t st dl k r).1 - z_S (z_tdS t st dl k r).2.2.2.1 0 st.toNat = r.1 - z_S r.2.2.2.1 0 st.toNat := by
  by_cases q : 0 < r.2.2.2.2 (k * 21 + t % 21)
  · have e2 : z_S (z_u r.2.2.2.1 k (r.2.2.2.1 k + r.2.2.2.2 (k * 21 + t % 21))) 0 st.toNat = z_S r.2.2.2.1 0 st.toNat + r.2.2.2.2 (k * 21 + t % 21) := by
      rw [z_S_u, if_pos (by omega)]
      omega
    have e1 : z_u r.2.2.2.1 k (r.2.2.2.1 k + r.2.2.2.2 (k * 21 + t % 21)) 0 + z_S (z_u r.2.2.2.2 (k * 21 + t % 21) 0) 0 21 = r.2.2.2.1 0 + z_S r.2.2.2.2 0 21 := by
      rw [z_S_u]
      by_cases c : k = 0
      · subst c
        rw [if_pos (by omega), z_u_same]
        omega
      · rw [if_neg (by omega), z_u_ne (by omega)]
    by_cases q2 : k + 1 < st
    · rw [z_tdS_1 q q2]
      dsimp only
      have hd := hdl (k + 1) (by omega) (by omega)
      refine ⟨?_, by rw [e2]; omega⟩
      unfold z_bg
      rw [z_S_u, if_neg (by omega)]
      exact e1
    · rw [z_tdS_2 q q2]
      dsimp only
      exact ⟨e1, by rw [e2]; omega⟩
  · rw [z_tdS_3 q]
    exact ⟨rfl, rfl⟩
theorem x_td_n {t st : Int} {dl : Int → Int} {r : z_R} (hst : st ≤ 5) (ht : 0 ≤ t) (hdl : ∀ j : Int, 0 ≤ j → j < 5 → 1 ≤ dl j ∧ dl j ≤ 20) : ∀ n : Nat, (n : Int) ≤ st → (z_it (z_tdS t st dl) r n).2.2.2.1 0 + z_S (z_it (z_tdS t st dl) r n).2.2.2.2 0 21 = r.2.2.2.1 0 + z_S r.2.2.2.2 0 21 ∧ (z_it (z_tdS t st dl) r n).1 - z_S (z_it (z_tdS t st dl) r n).2.2.2.1 0 st.toNat = r.1 - z_S r.2.2.2.1 0 st.toNat
  | 0, _ => ⟨rfl, rfl⟩
  | n + 1, hn => by
    obtain ⟨h1, h2⟩ := x_td_n hst ht hdl n (by omega)
    obtain ⟨h3, h4⟩ := x_td_s (k := (n : Int)) (r := z_it (z_tdS t st dl) r n) ⟨by omega, by omega⟩ hst ht hdl
    exact ⟨h3.trans h1, h4.trans h2⟩
theorem x_tdR {ct : z_Ct} (h : z_ok ct) : (z_tdR ct).2.2.2.1 0 + z_S (z_tdR ct).2.2.2.2 0 21 = ct.1.2.2.2.2.2.1 0 + z_S ct.1.2.2.2.2.2.2 0 21 ∧ (z_tdR ct).1 = z_S (z_tdR ct).2.2.2.1 0 ct.1.2.1.toNat - z_S ct.1.2.2.2.2.2.1 0 ct.1.2.1.toNat := by
  have hw := h.1
  have h1 := x_td_n (t := ct.1.1) (st := ct.1.2.1) (dl := ct.1.2.2.2.2.1) (r := (0, ct.1.2.2.1, ct.1.2.2.2.1, ct.1.2.2.2.2.2.1, ct.1.2.2.2.2.2.2)) hw.2.1.2 hw.1 hw.2.2.2.1 ct.1.2.1.toNat (by have := hw.2.1; omega)
  obtain ⟨a1, a2⟩ := h1
  refine ⟨a1, ?_⟩
  have a3 : (z_tdR ct).1 - z_S (z_tdR ct).2.2.2.1 0 ct.1.2.1.toNat = 0 - z_S ct.1.2.2.2.2.2.1 0 ct.1.2.1.toNat := a2
  omega
theorem x_sk_nano {ct : z_Ct} (h : x_ok ct) : x_sk (z_nano ct) := by
  have hok := h.1
  have hw := hok.1
  have hsok := hok.2.2.1
  have hT := (z_td_I hw ct.1.2.1 (by have := hw.2.1; omega) (by omega)).2
  have hsh : 0 ≤ (z_tdR ct).2.1 ∧ (z_tdR ct).2.1 < z_p2 ct.1.2.1 := hT.2.2.1
  have ht := hw.1
  obtain ⟨k1, k2⟩ := h.2.2.2.1
  by_cases q : 0 < (z_tdR ct).1
  · by_cases q2 : ct.2.2.1.2.2.1 (z_tdR ct).2.1 = 0
    · have e1 : (z_nano ct).2.2.1.1 = ct.2.2.1.1 + 1 := by show (z_nsg ct (z_tdR ct)).1 = _; rw [z_nsg_y q]; exact if_pos q2
      have e2 : (z_nano ct).2.2.1.2.1 = z_u ct.2.2.1.2.1 ct.2.2.1.1 (z_tdR ct).2.1 := by show (z_nsg ct (z_tdR ct)).2.1 = _; rw [z_nsg_y q]; exact if_pos q2
      have e3 : (z_nano ct).2.2.1.2.2.2.2 = z_u ct.2.2.1.2.2.2.2 (z_tdR ct).2.1 ct.1.1 := by show (z_nsg ct (z_tdR ct)).2.2.2.2 = _; rw [z_nsg_y q]; exact if_pos q2
      have hne : ∀ i : Int, 0 ≤ i → i < ct.2.2.1.1 → ¬ ct.2.2.1.2.1 i = (z_tdR ct).2.1 := fun i i1 i2 z => by
        have h9 := (hsok.2.1 i i1 i2).2
        rw [z, q2] at h9
        omega
      refine ⟨fun i j i1 i2 i3 => ?_, fun i i1 i2 => ?_⟩
      · rw [e1] at i3
        rw [e2, e3]
        rw [z_u_ne (show ¬ i = ct.2.2.1.1 by omega), z_u_ne (hne i i1 (by omega))]
        by_cases c : j = ct.2.2.1.1
        · rw [c, z_u_same, z_u_same]
          exact (k2 i i1 (by omega)).2.2
        · rw [z_u_ne c, z_u_ne (hne j (by omega) (by omega))]
          exact k1 i j i1 i2 (by omega)
      · rw [e1] at i2
        rw [e2, e3]
        show _ < z_p2 ct.1.2.1 ∧ _ ∧ _ < ct.1.1 + 1
        by_cases c : i = ct.2.2.1.1
        · rw [c, z_u_same, z_u_same]
          exact ⟨hsh.2, ht, by omega⟩
        · rw [z_u_ne c, z_u_ne (hne i i1 (by omega))]
          have := k2 i i1 (by omega)
          exact ⟨this.1, this.2.1, by omega⟩
    · have e1 : (z_nano ct).2.2.1.1 = ct.2.2.1.1 := by show (z_nsg ct (z_tdR ct)).1 = _; rw [z_nsg_y q]; exact if_neg q2
      have e2 : (z_nano ct).2.2.1.2.1 = ct.2.2.1.2.1 := by show (z_nsg ct (z_tdR ct)).2.1 = _; rw [z_nsg_y q]; exact if_neg q2
      have e3 : (z_nano ct).2.2.1.2.2.2.2 = ct.2.2.1.2.2.2.2 := by show (z_nsg ct (z_tdR ct)).2.2.2.2 = _; rw [z_nsg_y q]; exact if_neg q2
      refine ⟨fun i j i1 i2 i3 => ?_, fun i i1 i2 => ?_⟩
      · rw [e1] at i3
        rw [e2, e3]
        exact k1 i j i1 i2 i3
      · rw [e1] at i2
        rw [e2, e3]
        show _ < z_p2 ct.1.2.1 ∧ _ ∧ _ < ct.1.1 + 1
        have := k2 i i1 i2
        exact ⟨this.1, this.2.1, by omega⟩
  · have e : (z_nano ct).2.2.1 = ct.2.2.1 := by show z_nsg ct (z_tdR ct) = _; exact z_nsg_n q
    refine ⟨fun i j i1 i2 i3 => ?_, fun i i1 i2 => ?_⟩
    · rw [e] at i3 ⊢
      exact k1 i j i1 i2 i3
    · rw [e] at i2 ⊢
      show _ < z_p2 ct.1.2.1 ∧ _ ∧ _ < ct.1.1 + 1
      have := k2 i i1 i2
      exact ⟨this.1, this.2.1, by omega⟩
theorem x_rk_add {ct : z_Ct} (h : x_ok ct) {ti' : Int → Int} {m : Int} (hm : m = ct.2.1.1 + 1) (e : ti' = z_u ct.2.1.2.2.1 ct.2.1.1 ct.1.1) : ∀ i j : Int, 0 ≤ i → i ≤ j → j < m → ti' i ≤ ti' j := by
  intro i j i1 i2 i3
  subst hm; subst e
  have h9 := h.1.2.1.2.1
  by_cases c : j = ct.2.1.1
  · rw [c, z_u_same]
    by_cases c2 : i = ct.2.1.1
    · rw [c2, z_u_same]; exact Int.le_refl _
    · rw [z_u_ne c2]
      exact (h9 i i1 (by omega)).2.2.2
  · rw [z_u_ne c, z_u_ne (show ¬ i = ct.2.1.1 by omega)]
    exact h.2.2.2.2 i j i1 i2 (by omega)
theorem x_nano {ct : z_Ct} (h : x_ok ct) : x_ok (z_nano ct) := by
  have hok := h.1
  have h0 := z_ok_nano hok
  have hx := x_tdR hok
  have hlc := hok.2.2.2.2.2.1
  refine ⟨h0, ?_, ?_, x_sk_nano h, ?_⟩
  · show ct.2.2.2.2.1 = ((z_tdR ct).2.2.2.1 0 + z_S (z_tdR ct).2.2.2.2 0 21) % z_p2 ct.1.2.1
    rw [hx.1]
    exact h.2.1
  · intro z
    have z' : ct.2.2.2.2.2.1 = ct.1.1 + 1 := z
    omega
  · by_cases c : z_ncl ct (z_tdR ct)
    · have e : (z_nano ct).2.1 = z_rad ct.2.1 (z_tdR ct).2.1 ct.1.1 ct.2.2.2.2.1 1 := if_pos c
      intro i j i1 i2 i3
      rw [e] at i3 ⊢
      exact x_rk_add h (ti' := z_u ct.2.1.2.2.1 ct.2.1.1 ct.1.1) (m := ct.2.1.1 + 1) rfl rfl i j i1 i2 i3
    · have e : (z_nano ct).2.1 = ct.2.1 := if_neg c
      intro i j i1 i2 i3
      rw [e] at i3 ⊢
      exact h.2.2.2.2 i j i1 i2 i3
theorem x_ps {ct : z_Ct} (h : x_ok ct) : ∀ n : Nat, x_ok (z_ps ct n).1
  | 0 => h
  | n + 1 => x_nano (x_ps h n)
theorem x_rg {ct : z_Ct} (h : x_ok ct) (ht : ct.1.1 ≤ 9999) : x_ok (z_rg ct).1 := by
  have h0 := (z_rg_ok h.1 ht).1
  unfold z_rg at h0 ⊢
  by_cases q : 99 ≤ ct.2.1.1 + ct.2.2.2.2.2.2.2
  · rw [if_pos q]; exact h
  · rw [if_neg q] at h0 ⊢
    exact ⟨h0, h.2.1, h.2.2.1, h.2.2.2.1, fun i j i1 i2 i3 => x_rk_add h (ti' := z_u ct.2.1.2.2.1 ct.2.1.1 ct.1.1) (m := ct.2.1.1 + 1) rfl rfl i j i1 i2 i3⟩
theorem x_sl {ct : z_Ct} (h : x_ok ct) (ht : ct.1.1 ≤ 9999) : x_ok (z_sl ct).1 := by
  have h0 := (z_sl_ok h.1 ht).1
  unfold z_sl at h0 ⊢
  by_cases q : ¬ ct.2.2.2.2.2.2.2 = 0
  · rw [if_pos q]; exact h
  · rw [if_neg q] at h0 ⊢
    by_cases q2 : 99 ≤ ct.2.1.1
    · rw [if_pos q2]; exact h
    · rw [if_neg q2] at h0 ⊢
      exact ⟨h0, h.2⟩
theorem x_tc {ct : z_Ct} (h : x_ok ct) : x_ok (z_tc ct) := by
  unfold z_tc
  by_cases q : ct.2.2.2.2.2.1 = ct.1.1
  · rw [if_pos q]; exact h
  · rw [if_neg q]; exact x_take h q
/-! ===== what the law asks of a counter ===== -/
theorem x_fst {f : Int → Int} : ∀ (n : Nat) (j : Int), 0 ≤ j → (∀ i : Int, j ≤ i → i < j + n → 0 ≤ f i) → (z_fst f j n = -6 ↔ ∀ i : Int, j ≤ i → i < j + n → f i = 0) ∧ (z_fst f j n ≤ j + n - 1 ∨ z_fst f j n = -6) ∧ -6 ≤ z_fst f j n
  | 0, j, _, _ => ⟨⟨fun _ i i1 i2 => by omega, fun _ => rfl⟩, Or.inr rfl, Int.le_refl _⟩
  | n + 1, j, h0, h => by
    have h1 := h j (by omega) (by omega)
    by_cases q : 0 < f j
    · rw [z_fst_pos (by omega) q]
      refine ⟨⟨fun z => by omega, fun z => ?_⟩, Or.inl (by omega), by omega⟩
      have := z j (by omega) (by omega)
      omega
    · rw [z_fst_neg (m := n) rfl q]
      obtain ⟨h2, h3, h4⟩ := x_fst n (j + 1) (by omega) (fun i i1 i2 => h i (by omega) (by omega))
      refine ⟨⟨fun z i i1 i2 => ?_, fun z => h2.mpr (fun i i1 i2 => z i (by omega) (by omega))⟩, by omega, h4⟩
      by_cases c : i = j
      · rw [c]; omega
      · exact h2.mp z i (by omega) (by omega)
/-- a stage: nothing on its way just when nothing is due; what is due is due soon -/
theorem x_due {ct : z_Ct} (h : z_ok ct) {k : Int} (hk : 0 ≤ k ∧ k < 5) : (z_S ct.1.2.2.2.2.2.2 (k * 21) 21 = 0 ↔ z_fst (fun i => ct.1.2.2.2.2.2.2 (k * 21 + (ct.1.1 + i) % 21)) 0 21 = -6) ∧ z_fst (fun i => ct.1.2.2.2.2.2.2 (k * 21 + (ct.1.1 + i) % 21)) 0 21 ≤ 20 ∧ 0 ≤ z_S ct.1.2.2.2.2.2.2 (k * 21) 21 ∧ -6 ≤ z_fst (fun i => ct.1.2.2.2.2.2.2 (k * 21 + (ct.1.1 + i) % 21)) 0 21 := by
  have hdu := h.1.2.2.2.2.1
  have hnn := z_S_nn (f := ct.1.2.2.2.2.2.2) (a := k * 21) 21 (fun i i1 i2 => hdu _ (by omega) (by omega))
  obtain ⟨h1, h2, h2b⟩ := x_fst (f := fun i => ct.1.2.2.2.2.2.2 (k * 21 + (ct.1.1 + i) % 21)) 21 0 (by omega) (fun i i1 i2 => hdu _ (by omega) (by omega))
  refine ⟨⟨fun z => h1.mpr (fun i i1 i2 => ?_), fun z => z_S_zero 21 (fun i i1 i2 => ?_)⟩, by omega, hnn, h2b⟩
  · have h3 := z_S_el (f := ct.1.2.2.2.2.2.2) (a := k * 21) 21 (fun i i1 i2 => hdu _ (by omega) (by omega)) ((ct.1.1 + i) % 21) (by omega) (by omega)
    have h4 := hdu (k * 21 + (ct.1.1 + i) % 21) (by omega) (by omega)
    show ct.1.2.2.2.2.2.2 (k * 21 + (ct.1.1 + i) % 21) = 0
    omega
  · have h3 := h1.mp z ((i - ct.1.1 % 21) % 21) (by omega) (by omega)
    have h4 : ct.1.2.2.2.2.2.2 (k * 21 + (ct.1.1 + (i - ct.1.1 % 21) % 21) % 21) = 0 := h3
    rw [show (ct.1.1 + (i - ct.1.1 % 21) % 21) % 21 = i by omega] at h4
    exact h4
/-- the outputs, put together -/
theorem x_shows {ct : z_Ct} (h : z_ok ct) : z_it (fun k a => a + z_bit ct.1.2.2.1 k * z_p2 k) 0 ct.1.2.1.toNat = ct.1.2.2.1 := by
  have hsh := h.1.2.2.1
  have hst := h.1.2.1
  obtain ⟨x, hx⟩ := Int.eq_ofNat_of_zero_le hsh.1
  obtain ⟨n, hn⟩ := Int.eq_ofNat_of_zero_le (show 0 ≤ ct.1.2.1 by omega)
  rw [hx, hn, Int.toNat_natCast, z_bits_sum]
  rw [hn, hx, z_p2_nat] at hsh
  rw [Nat.mod_eq_of_lt (by omega)]
/-- those on their way, stage by stage -/
theorem x_way {ct : z_Ct} (h : z_ok ct) : z_it (fun k a => a + z_S ct.1.2.2.2.2.2.2 (k * 21) 21) 0 ct.1.2.1.toNat = ct.1.2.2.2.1 := by
  have hw := h.1
  have hst := hw.2.1
  rw [z_S_st (by omega) (fun k i k1 k2 i1 i2 => hw.2.2.2.2.2.2.2.2.2.1 k i k1 k2 i1 i2)]
  exact hw.2.2.2.2.2.2.2.2.2.2.symm
theorem x_ow0 {w : z_Wv} {B : Int} (hw : z_wok w B) (h0 : w.2.2.2.1 = 0) : ∀ i : Int, 0 ≤ i → i < 105 → w.2.2.2.2.2.2 i = 0 := by
  intro i i1 i2
  have h1 := z_S_el (f := w.2.2.2.2.2.2) (a := 0) 105 (fun i i1 i2 => hw.2.2.2.2.1 _ (by omega) (by omega)) i i1 i2
  have h2 := hw.2.2.2.2.1 i i1 i2
  have h3 := hw.2.2.2.2.2.2.2.2.2.2
  rw [Int.zero_add] at h1
  omega
theorem x_bitN (x k : Nat) : z_bit (x : Int) (k : Int) = ((x.testBit k).toNat : Int) := by
  unfold z_bit
  rw [z_p2_nat, Nat.toNat_testBit]
  push_cast
  rfl
/-- when all is still, what shows is the count -/
theorem x_still {ct : z_Ct} (h : x_ok ct) (h0 : ct.1.2.2.2.1 = 0) : ct.1.2.2.1 = ct.2.2.2.2.1 := by
  have hw := h.1.1
  have hst := hw.2.1
  have hdn := hw.2.2.2.2.2.1
  have hz := x_ow0 hw h0
  have hrow : ∀ k : Int, 0 ≤ k → k < 5 → z_S ct.1.2.2.2.2.2.2 (k * 21) 21 = 0 := fun k k1 k2 => z_S_zero 21 (fun i i1 i2 => hz _ (by omega) (by omega))
  have htot := hw.2.2.2.2.2.2.2.1
  have h1 : ∀ n : Nat, (n : Int) < ct.1.2.1 → ct.1.2.2.2.2.2.1 n = ct.1.2.2.2.2.2.1 0 / z_p2 n := by
    intro n
    induction n with
    | zero => intro _; show ct.1.2.2.2.2.2.1 0 = ct.1.2.2.2.2.2.1 0 / z_p2 ((0 : Nat) : Int); rw [z_p2_nat]; simp
    | succ n ih =>
      intro hn
      have h2 := htot n (by omega) (by omega)
      rw [hrow ((n : Int) + 1) (by omega) (by omega), Int.add_zero, ih (by omega)] at h2
      rw [show ((n + 1 : Nat) : Int) = (n : Int) + 1 by omega, h2, show (n : Int) + 1 = ((n + 1 : Nat) : Int) by omega, z_p2_nat, z_p2_nat, Int.ediv_ediv_of_nonneg (Int.natCast_nonneg _), Nat.pow_succ]
      push_cast
      rfl
  have hc := h.2.1
  have h00 := hrow 0 (by omega) (by omega)
  rw [Int.zero_mul] at h00
  rw [h00, Int.add_zero] at hc
  have hck := h.1.2.2.2.2.1
  refine y_bits (s := ct.1.2.1) (by omega) hw.2.2.1 hck (fun k hk => ?_)
  have hb := hw.2.2.2.2.2.2.2.2.1 k (by omega) hk
  have hd0 := hdn 0 (by omega) (by omega)
  rw [hb, h1 k hk, hc]
  obtain ⟨d, hd⟩ := Int.eq_ofNat_of_zero_le hd0
  obtain ⟨s, hs⟩ := Int.eq_ofNat_of_zero_le (show 0 ≤ ct.1.2.1 by omega)
  rw [hd, hs]
  show z_bit (d : Int) (k : Int) = _
  rw [z_p2_nat, show ((d : Int) % ((2 ^ s : Nat) : Int)) = ((d % 2 ^ s : Nat) : Int) by push_cast; rfl, x_bitN, x_bitN, Nat.testBit_mod_two_pow]
  rw [show decide (k < s) = true by rw [decide_eq_true_iff]; omega]
  rfl
