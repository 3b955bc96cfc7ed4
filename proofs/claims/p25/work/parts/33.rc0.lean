/-! ===== the words of the class's own methods ===== -/
def z_wn (w : z_Wv) : z_Wv := (w.1 + 1, w.2.1, (z_it (z_tdS w.1 w.2.1 w.2.2.2.2.1) (0, w.2.2.1, w.2.2.2.1, w.2.2.2.2.2.1, w.2.2.2.2.2.2) w.2.1.toNat).2.1, (z_it (z_tdS w.1 w.2.1 w.2.2.2.2.1) (0, w.2.2.1, w.2.2.2.1, w.2.2.2.2.2.1, w.2.2.2.2.2.2) w.2.1.toNat).2.2.1, w.2.2.2.2.1, (z_it (z_tdS w.1 w.2.1 w.2.2.2.2.1) (0, w.2.2.1, w.2.2.2.1, w.2.2.2.2.2.1, w.2.2.2.2.2.2) w.2.1.toNat).2.2.2.1, (z_it (z_tdS w.1 w.2.1 w.2.2.2.2.1) (0, w.2.2.1, w.2.2.2.1, w.2.2.2.2.2.1, w.2.2.2.2.2.2) w.2.1.toNat).2.2.2.2)
def z_si (w : z_Wv) (j : Int) : Nat → Int × z_Wv
  | 0 => (j, w)
  | n + 1 => if 0 < w.2.2.2.1 then z_si (z_wn w) (j + 1) n else (j, w)
theorem z_si_s {w : z_Wv} {j : Int} {n m : Nat} (hn : n = m + 1) (h : 0 < w.2.2.2.1) : z_si w j n = z_si (z_wn w) (j + 1) m := by
  subst hn
  show (if 0 < w.2.2.2.1 then _ else _) = _
  rw [if_pos h]
theorem z_si_0 {w : z_Wv} {j : Int} {n : Nat} (h : ¬ 0 < w.2.2.2.1) : z_si w j n = (j, w) := by
  cases n with
  | zero => rfl
  | succ n =>
    show (if 0 < w.2.2.2.1 then _ else _) = _
    rw [if_neg h]
def z_sh (w tr : z_Wv) (k : Int) : Int × z_Wv := if 0 ≤ k ∧ k ≤ 99 then ((z_it (fun _ w => z_wn w) w k.toNat).2.2.1, z_it (fun _ w => z_wn w) w k.toNat) else (-2, tr)
theorem z_wok_wn {w : z_Wv} {B : Int} (h : z_wok w B) : z_wok (z_wn w) B := by
  have h1 := (z_td_I h w.2.1 (by have := h.2.1; omega) (by omega)).2
  obtain ⟨a1, a2⟩ := h1
  exact ⟨by show 0 ≤ w.1 + 1; dsimp only at a1; omega, a2⟩
theorem z_th_aux {dl : Int → Int} (h : ∀ i : Int, 0 ≤ i → i < 5 → 1 ≤ dl i ∧ dl i ≤ 20) : ∀ n : Nat, n ≤ 5 → (n : Int) ≤ z_it (fun j a => a + dl j) 0 n ∧ z_it (fun j a => a + dl j) 0 n ≤ 20 * (n : Int)
  | 0, _ => by
    show ((0 : Nat) : Int) ≤ (0 : Int) ∧ (0 : Int) ≤ 20 * ((0 : Nat) : Int)
    omega
  | n + 1, hn => by
    have h1 := z_th_aux h n (by omega)
    have h2 := h (n : Int) (by omega) (by omega)
    show ((n + 1 : Nat) : Int) ≤ z_it (fun j a => a + dl j) 0 n + dl (n : Int) ∧ z_it (fun j a => a + dl j) 0 n + dl (n : Int) ≤ 20 * ((n + 1 : Nat) : Int)
    omega
theorem z_th_rng {st : Int} {dl : Int → Int} (hst : 1 ≤ st ∧ st ≤ 5) (h : ∀ i : Int, 0 ≤ i → i < 5 → 1 ≤ dl i ∧ dl i ≤ 20) : 1 ≤ z_it (fun j a => a + dl j) 0 st.toNat ∧ z_it (fun j a => a + dl j) 0 st.toNat ≤ 100 := by
  have := z_th_aux h st.toNat (by omega)
  omega
def z_gif (st : Int) (dl : Int → Int) (k : Int) : Int := (if 50 < z_it (fun j a => a + dl j) 0 st.toNat - dl k + 1 then 50 else z_it (fun j a => a + dl j) 0 st.toNat - dl k + 1) + 1
theorem z_gif_rng {st k : Int} {dl : Int → Int} (hst : 1 ≤ st ∧ st ≤ 5) (h : ∀ i : Int, 0 ≤ i → i < 5 → 1 ≤ dl i ∧ dl i ≤ 20) (hk : 0 ≤ k ∧ k < 5) : -100 ≤ z_gif st dl k ∧ z_gif st dl k ≤ 51 := by
  have h1 := z_th_rng hst h
  have h2 := h k hk.1 hk.2
  unfold z_gif
  split <;> omega
def z_tb (st : Int) (dl : Int → Int) : Int × Int := z_it (fun j q => if z_gif st dl (j + 1) < q.2 then (j + 1, z_gif st dl (j + 1)) else q) (0, z_gif st dl 0) (st - 1).toNat
theorem z_nm_rng {len : Int} {sg : Int → Int} (h : ∀ i : Int, 0 ≤ i → i < len → 0 ≤ sg i ∧ sg i < 256) (k : Int) : 0 ≤ z_nm len sg k ∧ z_nm len sg k ≤ 99 := by
  unfold z_nm
  (repeat' split) <;> omega
theorem z_oa_rng {len : Int} {sg : Int → Int} (h : ∀ i : Int, 0 ≤ i → i < len → 0 ≤ sg i ∧ sg i < 256) (k : Int) : 0 ≤ z_oa len sg k ∧ z_oa len sg k ≤ 99 := by
  have := z_nm_rng h (k + 1)
  unfold z_oa
  (repeat' split) <;> omega
theorem z_ff_aux {len : Int} {sg : Int → Int} : ∀ (n : Nat) (j q : Int), 0 ≤ j → j + n = len → (z_ff len sg j q n = -6 ∨ (0 ≤ z_ff len sg j q n ∧ z_ff len sg j q n ≤ len))
  | 0, j, q, h1, h2 => by
    show (if q = 1 ∨ q = 3 ∨ q = 4 then (-6 : Int) else len) = -6 ∨ (0 ≤ (if q = 1 ∨ q = 3 ∨ q = 4 then (-6 : Int) else len) ∧ (if q = 1 ∨ q = 3 ∨ q = 4 then (-6 : Int) else len) ≤ len)
    split <;> omega
  | n + 1, j, q, h1, h2 => by
    by_cases h : z_pa q (sg j) = 7
    · rw [z_ff_b (m := n) rfl h]
      omega
    · rw [z_ff_s (m := n) rfl h]
      exact z_ff_aux n (j + 1) _ (by omega) (by omega)
theorem z_ff_rng {len : Int} {sg : Int → Int} (h : 0 ≤ len ∧ len ≤ 80) : z_ff len sg 0 0 len.toNat = -6 ∨ (0 ≤ z_ff len sg 0 0 len.toNat ∧ z_ff len sg 0 0 len.toNat ≤ len) := z_ff_aux len.toNat 0 0 (by omega) (by omega)
/-- one order of a text: the counter, the answer -/
def z_c1 (len : Int) (sg : Int → Int) (ct : z_Ct) (k : Int) : z_Ct × Int :=
  if z_sg len sg k = 99 then (if 48 ≤ z_sg len sg (k + 1) ∧ z_sg len sg (k + 1) ≤ 57 then z_cap ct else (z_tc ct, z_tcA ct))
  else if z_sg len sg k = 100 then z_cd ct (z_sg len sg (k + 1) - 48) (z_nm len sg (k + 3))
  else if z_sg len sg k = 114 then z_rg ct
  else if z_sg len sg k = 116 then z_lp ct (z_nm len sg (k + 1))
  else if z_sg len sg k = 119 then z_sl ct
  else (ct, -3)
/-- the orders that begin at a place: the counter, how many in all, whether the text goes on -/
def z_ci (len : Int) (sg : Int → Int) (ct : z_Ct) (c k : Int) : Nat → z_Ct × Int × Bool
  | 0 => (ct, c, true)
  | n + 1 => if (z_c1 len sg ct k).2 < 0 then ((z_c1 len sg ct k).1, c, false) else z_ci len sg (z_c1 len sg ct k).1 (c + 1) k n
theorem z_ci_s {len : Int} {sg : Int → Int} {ct : z_Ct} {c k : Int} {n m : Nat} (hn : n = m + 1) (h : ¬ (z_c1 len sg ct k).2 < 0) : z_ci len sg ct c k n = z_ci len sg (z_c1 len sg ct k).1 (c + 1) k m := by
  subst hn
  show (if (z_c1 len sg ct k).2 < 0 then _ else _) = _
  rw [if_neg h]
theorem z_ci_b {len : Int} {sg : Int → Int} {ct : z_Ct} {c k : Int} {n m : Nat} (hn : n = m + 1) (h : (z_c1 len sg ct k).2 < 0) : z_ci len sg ct c k n = ((z_c1 len sg ct k).1, c, false) := by
  subst hn
  show (if (z_c1 len sg ct k).2 < 0 then _ else _) = _
  rw [if_pos h]
def z_co (len : Int) (sg : Int → Int) (ct : z_Ct) (c k : Int) : Nat → z_Ct × Int
  | 0 => (ct, c)
  | n + 1 => if (z_ci len sg ct c k (z_oa len sg k).toNat).2.2 = true then z_co len sg (z_ci len sg ct c k (z_oa len sg k).toNat).1 (z_ci len sg ct c k (z_oa len sg k).toNat).2.1 (k + 1) n else ((z_ci len sg ct c k (z_oa len sg k).toNat).1, (z_ci len sg ct c k (z_oa len sg k).toNat).2.1)
theorem z_co_s {len : Int} {sg : Int → Int} {ct : z_Ct} {c k : Int} {n m : Nat} (hn : n = m + 1) : z_co len sg ct c k n = if (z_ci len sg ct c k (z_oa len sg k).toNat).2.2 = true then z_co len sg (z_ci len sg ct c k (z_oa len sg k).toNat).1 (z_ci len sg ct c k (z_oa len sg k).toNat).2.1 (k + 1) m else ((z_ci len sg ct c k (z_oa len sg k).toNat).1, (z_ci len sg ct c k (z_oa len sg k).toNat).2.1) := by
  subst hn
  rfl
/-! ranges of the answers, and what stays -/
theorem z_ps_aux {ct : z_Ct} (h : z_ok ct) : ∀ n : Nat, z_ok (z_ps ct n).1 ∧ (z_ps ct n).1.1.1 = ct.1.1 + n ∧ (z_ps ct n).1.2.2.2.2.2.1 = ct.2.2.2.2.2.1 ∧ 0 ≤ (z_ps ct n).2 ∧ (z_ps ct n).2 ≤ n * (5 * (ct.2.2.2.2.2.1 + 1))
  | 0 => by
    refine ⟨h, ?_, rfl, ?_, ?_⟩
    · show ct.1.1 = ct.1.1 + ((0 : Nat) : Int); omega
    · show (0 : Int) ≤ 0; omega
    · show (0 : Int) ≤ ((0 : Nat) : Int) * (5 * (ct.2.2.2.2.2.1 + 1)); omega
  | n + 1 => by
    obtain ⟨h1, h2, h3, h4, h5⟩ := z_ps_aux h n
    have hw := h1.1
    have hs := hw.2.1
    have hT := (z_td_I hw (z_ps ct n).1.1.2.1 (by omega) (by omega)).1
    have hq : (z_ps ct n).1.1.2.1 * ((z_ps ct n).1.2.2.2.2.2.1 + 1) ≤ 5 * ((z_ps ct n).1.2.2.2.2.2.1 + 1) := Int.mul_le_mul_of_nonneg_right (by omega) (by have := h1.2.2.2.2.2.1; omega)
    refine ⟨z_ok_nano h1, ?_, ?_, ?_, ?_⟩
    · show (z_ps ct n).1.1.1 + 1 = _; omega
    · exact h3
    · show 0 ≤ (z_ps ct n).2 + (z_tdR (z_ps ct n).1).1
      have := hT.1
      unfold z_tdR
      omega
    · show (z_ps ct n).2 + (z_tdR (z_ps ct n).1).1 ≤ ((n + 1 : Nat) : Int) * (5 * (ct.2.2.2.2.2.1 + 1))
      have h6 := hT.2
      rw [h3] at hq h6
      have h7 : ((n + 1 : Nat) : Int) * (5 * (ct.2.2.2.2.2.1 + 1)) = (n : Int) * (5 * (ct.2.2.2.2.2.1 + 1)) + 5 * (ct.2.2.2.2.2.1 + 1) := by
        rw [show ((n + 1 : Nat) : Int) = (n : Int) + 1 by omega, Int.add_mul, Int.one_mul]
      rw [h7]
      unfold z_tdR
      omega
theorem z_lp_ok {ct : z_Ct} (h : z_ok ct) (ht : ct.1.1 ≤ 9999) (k : Int) : z_ok (z_lp ct k).1 ∧ (z_lp ct k).1.1.1 ≤ 9999 ∧ -5 ≤ (z_lp ct k).2 ∧ (z_lp ct k).2 < 100000000 := by
  have hlc := h.2.2.2.2.2.1
  unfold z_lp
  split
  · split
    · rename_i h1 h2
      obtain ⟨a1, a2, a3, a4, a5⟩ := z_ps_aux h k.toNat
      have h8 : (k.toNat : Int) * (5 * (ct.2.2.2.2.2.1 + 1)) ≤ 99 * (5 * (ct.2.2.2.2.2.1 + 1)) := Int.mul_le_mul_of_nonneg_right (by omega) (by omega)
      exact ⟨a1, by omega, by omega, by omega⟩
    · exact ⟨h, ht, by show (-5 : Int) ≤ -5; omega, by show (-5 : Int) < 100000000; omega⟩
  · exact ⟨h, ht, by show (-5 : Int) ≤ -2; omega, by show (-2 : Int) < 100000000; omega⟩
theorem z_lp_rng {ct : z_Ct} (h : z_ok ct) (ht : ct.1.1 ≤ 9999) (k : Int) : -2147483648 ≤ (z_lp ct k).2 ∧ (z_lp ct k).2 < 2147483648 := by
  have := z_lp_ok h ht k
  omega
theorem z_tcA_rng {ct : z_Ct} (h : z_ok ct) : -5 ≤ z_tcA ct ∧ z_tcA ct < 100 := by
  have hst := h.1.2.1
  have hp := z_p2_le (k := ct.1.2.1) (by omega)
  have hm := Int.emod_lt_of_pos (ct.2.2.2.2.1 + 1) (by omega : 0 < z_p2 ct.1.2.1)
  have hm2 := Int.emod_nonneg (ct.2.2.2.2.1 + 1) (by omega : ¬ z_p2 ct.1.2.1 = 0)
  unfold z_tcA
  split <;> omega
theorem z_tc_rng {ct : z_Ct} (h : z_ok ct) (ht : ct.1.1 ≤ 9999) : -2147483648 ≤ z_tcA ct ∧ z_tcA ct < 2147483648 := by
  have := z_tcA_rng h
  omega
theorem z_tc_ok {ct : z_Ct} (h : z_ok ct) (ht : ct.1.1 ≤ 9999) : z_ok (z_tc ct) ∧ (z_tc ct).1.1 ≤ 9999 := by
  unfold z_tc
  split
  · exact ⟨h, ht⟩
  · rename_i h1
    exact ⟨z_ok_take h h1, ht⟩
theorem z_cap_ok {ct : z_Ct} (h : z_ok ct) (ht : ct.1.1 ≤ 9999) : z_ok (z_cap ct).1 ∧ (z_cap ct).1.1.1 ≤ 9999 ∧ -5 ≤ (z_cap ct).2 ∧ (z_cap ct).2 < 100000000 := by
  unfold z_cap
  split
  · exact ⟨h, ht, by show (-5 : Int) ≤ -5; omega, by show (-5 : Int) < 100000000; omega⟩
  · rename_i h1
    have h2 := z_ok_take h (by omega)
    obtain ⟨a1, a2, a3, a4, a5⟩ := z_ps_aux h2 1
    have a4' : 0 ≤ 0 + (z_tdR (z_take ct)).1 := a4
    have a5' : 0 + (z_tdR (z_take ct)).1 ≤ ((1 : Nat) : Int) * (5 * ((z_take ct).2.2.2.2.2.1 + 1)) := a5
    have e : (z_take ct).2.2.2.2.2.1 = ct.1.1 := rfl
    rw [e] at a5'
    refine ⟨a1, ?_, ?_, ?_⟩
    · show ct.1.1 + 1 ≤ 9999; omega
    · show -5 ≤ (z_tdR (z_take ct)).1; omega
    · show (z_tdR (z_take ct)).1 < 100000000; omega
theorem z_rg_rng {ct : z_Ct} (h : z_ok ct) (ht : ct.1.1 ≤ 9999) : -2147483648 ≤ (z_rg ct).2 ∧ (z_rg ct).2 < 2147483648 := by
  have := z_rg_ok h ht
  omega
theorem z_sl_rng {ct : z_Ct} (h : z_ok ct) (ht : ct.1.1 ≤ 9999) : -2147483648 ≤ (z_sl ct).2 ∧ (z_sl ct).2 < 2147483648 := by
  have := z_sl_ok h ht
  omega
theorem z_cd_rng {ct : z_Ct} (h : z_ok ct) (ht : ct.1.1 ≤ 9999) (k v : Int) : -2147483648 ≤ (z_cd ct k v).2 ∧ (z_cd ct k v).2 < 2147483648 := by
  have := z_cd_ok h ht k v
  omega
theorem z_chg_rng {ct : z_Ct} (h : z_ok ct) (ht : ct.1.1 ≤ 9999) (w k : Int) : -2147483648 ≤ (z_chg ct w k).2 ∧ (z_chg ct w k).2 < 2147483648 := by
  have := z_chg_ok h ht w k
  omega
theorem z_c1_all {len : Int} {sg : Int → Int} (hsg : ∀ i : Int, 0 ≤ i → i < len → 0 ≤ sg i ∧ sg i < 256) {ct : z_Ct} (h : z_ok ct) (ht : ct.1.1 ≤ 9999) (k : Int) : z_ok (z_c1 len sg ct k).1 ∧ (z_c1 len sg ct k).1.1.1 ≤ 9999 ∧ -5 ≤ (z_c1 len sg ct k).2 ∧ (z_c1 len sg ct k).2 < 100000000 := by
  unfold z_c1
  split
  · split
    · exact z_cap_ok h ht
    · have h1 := z_tc_ok h ht
      have h2 := z_tcA_rng h
      exact ⟨h1.1, h1.2, h2.1, by show z_tcA ct < 100000000; omega⟩
  · split
    · have := z_cd_ok h ht (z_sg len sg (k + 1) - 48) (z_nm len sg (k + 3))
      exact ⟨this.1, this.2.1, this.2.2.1, by omega⟩
    · split
      · have := z_rg_ok h ht
        exact ⟨this.1, this.2.1, this.2.2.1, by omega⟩
      · split
        · exact z_lp_ok h ht _
        · split
          · have := z_sl_ok h ht
            exact ⟨this.1, this.2.1, this.2.2.1, by omega⟩
          · exact ⟨h, ht, by show (-5 : Int) ≤ -3; omega, by show (-3 : Int) < 100000000; omega⟩
theorem z_c1_ok {len : Int} {sg : Int → Int} (hsg : ∀ i : Int, 0 ≤ i → i < len → 0 ≤ sg i ∧ sg i < 256) {ct : z_Ct} (h : z_ok ct) (ht : ct.1.1 ≤ 9999) {k : Int} (hk : 0 ≤ k ∧ k < 80) : z_ok (z_c1 len sg ct k).1 ∧ (z_c1 len sg ct k).1.1.1 ≤ 9999 := by
  have := z_c1_all hsg h ht k
  exact ⟨this.1, this.2.1⟩
theorem z_c1_rng {len : Int} {sg : Int → Int} (hsg : ∀ i : Int, 0 ≤ i → i < len → 0 ≤ sg i ∧ sg i < 256) {ct : z_Ct} (h : z_ok ct) (ht : ct.1.1 ≤ 9999) {k : Int} (hk : 0 ≤ k ∧ k < 80) : -5 ≤ (z_c1 len sg ct k).2 ∧ (z_c1 len sg ct k).2 < 100000000 := by
  have := z_c1_all hsg h ht k
  exact ⟨this.2.2.1, this.2.2.2⟩
theorem z_ci_all {len : Int} {sg : Int → Int} (hsg : ∀ i : Int, 0 ≤ i → i < len → 0 ≤ sg i ∧ sg i < 256) (k : Int) : ∀ (n : Nat) (ct : z_Ct) (c : Int), z_ok ct → ct.1.1 ≤ 9999 → z_ok (z_ci len sg ct c k n).1 ∧ (z_ci len sg ct c k n).1.1.1 ≤ 9999 ∧ c ≤ (z_ci len sg ct c k n).2.1 ∧ (z_ci len sg ct c k n).2.1 ≤ c + n
  | 0, ct, c, h, ht => ⟨h, ht, by show c ≤ c; omega, by show c ≤ c + ((0 : Nat) : Int); omega⟩
  | n + 1, ct, c, h, ht => by
    have h1 := z_c1_all hsg h ht k
    by_cases h2 : (z_c1 len sg ct k).2 < 0
    · rw [z_ci_b (m := n) rfl h2]
      exact ⟨h1.1, h1.2.1, by show c ≤ c; omega, by show c ≤ c + ((n + 1 : Nat) : Int); omega⟩
    · rw [z_ci_s (m := n) rfl h2]
      have h3 := z_ci_all hsg k n (z_c1 len sg ct k).1 (c + 1) h1.1 h1.2.1
      exact ⟨h3.1, h3.2.1, by omega, by omega⟩
theorem z_co_all {len : Int} {sg : Int → Int} (hsg : ∀ i : Int, 0 ≤ i → i < len → 0 ≤ sg i ∧ sg i < 256) : ∀ (n : Nat) (k : Int) (ct : z_Ct) (c : Int), z_ok ct → ct.1.1 ≤ 9999 → z_ok (z_co len sg ct c k n).1 ∧ (z_co len sg ct c k n).1.1.1 ≤ 9999 ∧ c ≤ (z_co len sg ct c k n).2 ∧ (z_co len sg ct c k n).2 ≤ c + 99 * n
  | 0, k, ct, c, h, ht => ⟨h, ht, by show c ≤ c; omega, by show c ≤ c + 99 * ((0 : Nat) : Int); omega⟩
  | n + 1, k, ct, c, h, ht => by
    have h0 := z_oa_rng hsg k
    have h1 := z_ci_all hsg k (z_oa len sg k).toNat ct c h ht
    rw [z_co_s (m := n) rfl]
    split
    · have h3 := z_co_all hsg n (k + 1) (z_ci len sg ct c k (z_oa len sg k).toNat).1 (z_ci len sg ct c k (z_oa len sg k).toNat).2.1 h1.1 h1.2.1
      exact ⟨h3.1, h3.2.1, by omega, by omega⟩
    · exact ⟨h1.1, h1.2.1, h1.2.2.1, by have := h1.2.2.2; dsimp only; omega⟩
theorem z_co_rng {len : Int} {sg : Int → Int} (hsg : ∀ i : Int, 0 ≤ i → i < len → 0 ≤ sg i ∧ sg i < 256) {ct : z_Ct} (h : z_ok ct) (ht : ct.1.1 ≤ 9999) (hl : 0 ≤ len ∧ len ≤ 80) : 0 ≤ (z_co len sg ct 0 0 len.toNat).2 ∧ (z_co len sg ct 0 0 len.toNat).2 ≤ 7920 := by
  have := z_co_all hsg len.toNat 0 ct 0 h ht
  omega
