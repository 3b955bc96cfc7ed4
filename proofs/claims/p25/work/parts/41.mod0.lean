/-! ===== the words of the reference's rows ===== -/
def z_tn (b k : Int) (f : Int → Int) : Int → Int := z_u f (b + 24 + 21 * k + f (b + 9 + k)) (f (b + 24 + 21 * k + f (b + 9 + k)) + 1)
def z_ck (b : Int) (f : Int → Int) : Int → Int := z_tn b 0 (z_u (z_u f (b + 4) (f (b + 2))) (b + 3) ((z_u f (b + 4) (f (b + 2)) (b + 3) + 1) % z_p2 (z_u f (b + 4) (f (b + 2)) b)))
def z_dn0 (b k : Int) (f : Int → Int) : Int → Int := z_u (z_u f (b + 14 + k) (1 - f (b + 14 + k))) (b + 19 + k) (z_u f (b + 14 + k) (1 - f (b + 14 + k)) (b + 19 + k) + 1)
def z_dn (b k : Int) (f : Int → Int) : Int → Int := if f (b + 14 + k) = 1 ∧ k + 1 < f b then z_tn b (k + 1) (z_dn0 b k f) else z_dn0 b k f
theorem z_dn_1 {b k : Int} {f : Int → Int} (h1 : f (b + 14 + k) = 1) (h2 : k + 1 < f b) : z_dn b k f = z_tn b (k + 1) (z_u (z_u f (b + 14 + k) (1 - f (b + 14 + k))) (b + 19 + k) (z_u f (b + 14 + k) (1 - f (b + 14 + k)) (b + 19 + k) + 1)) := if_pos ⟨h1, h2⟩
theorem z_dn_2 {b k : Int} {f : Int → Int} (h : ¬ (f (b + 14 + k) = 1 ∧ k + 1 < f b)) : z_dn b k f = z_u (z_u f (b + 14 + k) (1 - f (b + 14 + k))) (b + 19 + k) (z_u f (b + 14 + k) (1 - f (b + 14 + k)) (b + 19 + k) + 1) := if_neg h
