/-! ===== what the methods answer ===== -/
def x_o2 (ct : z_Ct) (k : Int) : Int := z_S ct.1.2.2.2.2.2.2 (k * 21) 21
def x_o3 (ct : z_Ct) (k : Int) : Int := z_fst (fun i => ct.1.2.2.2.2.2.2 (k * 21 + (ct.1.1 + i) % 21)) 0 21
def x_c5 (ct : z_Ct) (n : Int) : Int := z_it (fun j a => if ct.2.1.2.1 j = ct.2.1.2.2.2.1 j then a + 1 else a) 0 n.toNat
def x_c6 (ct : z_Ct) : Int := z_it (fun j a => if 0 < ct.2.2.1.2.2.1 j then z_or a (z_p2 j) else a) 0 32
def x_c7 (ct : z_Ct) : Int := z_it (fun j a => if 0 < ct.2.2.1.2.2.2.1 j then z_or a (z_p2 j) else a) 0 32
def x_si0 (ct : z_Ct) : Int := (z_si ct.1 0 101).1

theorem pa_count0 {ct : z_Ct} {kp : Int} : (if 0 = 0 then ct.1.1 else (if 0 = 1 then ct.1.2.2.1 else (if 0 = 2 then ct.2.2.2.2.1 else (if 0 = 3 then ct.1.2.2.2.1 else (if 0 = 4 then ct.2.1.1 else (if 0 = 5 then (z_it (fun j a => if ct.2.1.2.1 j = ct.2.1.2.2.2.1 j then a + 1 else a) 0 ct.2.1.1.toNat) else (if 0 = 6 then (z_it (fun j a => if 0 < ct.2.2.1.2.2.1 j then z_or a (z_p2 j) else a) 0 32) else (if 0 = 7 then (z_it (fun j a => if 0 < ct.2.2.1.2.2.2.1 j then z_or a (z_p2 j) else a) 0 32) else (if 0 = 8 then (if ct.2.2.2.2.2.2.1 = -1 then ct.1.1 else ct.1.1 - ct.2.2.2.2.2.2.1 - 1) else (if 0 = 9 then ct.2.2.2.2.2.2.2 else (if 0 = 10 then ct.1.2.1 else (if 0 = 11 then ct.2.2.2.1 else (if 0 = 12 then 0 else (if 0 = 13 then kp else -2)))))))))))))) = ct.1.1 := rfl
theorem pa_count1 {ct : z_Ct} {kp : Int} : (if 1 = 0 then ct.1.1 else (if 1 = 1 then ct.1.2.2.1 else (if 1 = 2 then ct.2.2.2.2.1 else (if 1 = 3 then ct.1.2.2.2.1 else (if 1 = 4 then ct.2.1.1 else (if 1 = 5 then (z_it (fun j a => if ct.2.1.2.1 j = ct.2.1.2.2.2.1 j then a + 1 else a) 0 ct.2.1.1.toNat) else (if 1 = 6 then (z_it (fun j a => if 0 < ct.2.2.1.2.2.1 j then z_or a (z_p2 j) else a) 0 32) else (if 1 = 7 then (z_it (fun j a => if 0 < ct.2.2.1.2.2.2.1 j then z_or a (z_p2 j) else a) 0 32) else (if 1 = 8 then (if ct.2.2.2.2.2.2.1 = -1 then ct.1.1 else ct.1.1 - ct.2.2.2.2.2.2.1 - 1) else (if 1 = 9 then ct.2.2.2.2.2.2.2 else (if 1 = 10 then ct.1.2.1 else (if 1 = 11 then ct.2.2.2.1 else (if 1 = 12 then 0 else (if 1 = 13 then kp else -2)))))))))))))) = ct.1.2.2.1 := rfl
theorem pa_count2 {ct : z_Ct} {kp : Int} : (if 2 = 0 then ct.1.1 else (if 2 = 1 then ct.1.2.2.1 else (if 2 = 2 then ct.2.2.2.2.1 else (if 2 = 3 then ct.1.2.2.2.1 else (if 2 = 4 then ct.2.1.1 else (if 2 = 5 then (z_it (fun j a => if ct.2.1.2.1 j = ct.2.1.2.2.2.1 j then a + 1 else a) 0 ct.2.1.1.toNat) else (if 2 = 6 then (z_it (fun j a => if 0 < ct.2.2.1.2.2.1 j then z_or a (z_p2 j) else a) 0 32) else (if 2 = 7 then (z_it (fun j a => if 0 < ct.2.2.1.2.2.2.1 j then z_or a (z_p2 j) else a) 0 32) else (if 2 = 8 then (if ct.2.2.2.2.2.2.1 = -1 then ct.1.1 else ct.1.1 - ct.2.2.2.2.2.2.1 - 1) else (if 2 = 9 then ct.2.2.2.2.2.2.2 else (if 2 = 10 then ct.1.2.1 else (if 2 = 11 then ct.2.2.2.1 else (if 2 = 12 then 0 else (if 2 = 13 then kp else -2)))))))))))))) = ct.2.2.2.2.1 := rfl
theorem pa_count3 {ct : z_Ct} {kp : Int} : (if 3 = 0 then ct.1.1 else (if 3 = 1 then ct.1.2.2.1 else (if 3 = 2 then ct.2.2.2.2.1 else (if 3 = 3 then ct.1.2.2.2.1 else (if 3 = 4 then ct.2.1.1 else (if 3 = 5 then (z_it (fun j a => if ct.2.1.2.1 j = ct.2.1.2.2.2.1 j then a + 1 else a) 0 ct.2.1.1.toNat) else (if 3 = 6 then (z_it (fun j a => if 0 < ct.2.2.1.2.2.1 j then z_or a (z_p2 j) else a) 0 32) else (if 3 = 7 then (z_it (fun j a => if 0 < ct.2.2.1.2.2.2.1 j then z_or a (z_p2 j) else a) 0 32) else (if 3 = 8 then (if ct.2.2.2.2.2.2.1 = -1 then ct.1.1 else ct.1.1 - ct.2.2.2.2.2.2.1 - 1) else (if 3 = 9 then ct.2.2.2.2.2.2.2 else (if 3 = 10 then ct.1.2.1 else (if 3 = 11 then ct.2.2.2.1 else (if 3 = 12 then 0 else (if 3 = 13 then kp else -2)))))))))))))) = ct.1.2.2.2.1 := rfl
theorem pa_count4 {ct : z_Ct} {kp : Int} : (if 4 = 0 then ct.1.1 else (if 4 = 1 then ct.1.2.2.1 else (if 4 = 2 then ct.2.2.2.2.1 else (if 4 = 3 then ct.1.2.2.2.1 else (if 4 = 4 then ct.2.1.1 else (if 4 = 5 then (z_it (fun j a => if ct.2.1.2.1 j = ct.2.1.2.2.2.1 j then a + 1 else a) 0 ct.2.1.1.toNat) else (if 4 = 6 then (z_it (fun j a => if 0 < ct.2.2.1.2.2.1 j then z_or a (z_p2 j) else a) 0 32) else (if 4 = 7 then (z_it (fun j a => if 0 < ct.2.2.1.2.2.2.1 j then z_or a (z_p2 j) else a) 0 32) else (if 4 = 8 then (if ct.2.2.2.2.2.2.1 = -1 then ct.1.1 else ct.1.1 - ct.2.2.2.2.2.2.1 - 1) else (if 4 = 9 then ct.2.2.2.2.2.2.2 else (if 4 = 10 then ct.1.2.1 else (if 4 = 11 then ct.2.2.2.1 else (if 4 = 12 then 0 else (if 4 = 13 then kp else -2)))))))))))))) = ct.2.1.1 := rfl
theorem pa_count5 {ct : z_Ct} {kp : Int} : (if 5 = 0 then ct.1.1 else (if 5 = 1 then ct.1.2.2.1 else (if 5 = 2 then ct.2.2.2.2.1 else (if 5 = 3 then ct.1.2.2.2.1 else (if 5 = 4 then ct.2.1.1 else (if 5 = 5 then (z_it (fun j a => if ct.2.1.2.1 j = ct.2.1.2.2.2.1 j then a + 1 else a) 0 ct.2.1.1.toNat) else (if 5 = 6 then (z_it (fun j a => if 0 < ct.2.2.1.2.2.1 j then z_or a (z_p2 j) else a) 0 32) else (if 5 = 7 then (z_it (fun j a => if 0 < ct.2.2.1.2.2.2.1 j then z_or a (z_p2 j) else a) 0 32) else (if 5 = 8 then (if ct.2.2.2.2.2.2.1 = -1 then ct.1.1 else ct.1.1 - ct.2.2.2.2.2.2.1 - 1) else (if 5 = 9 then ct.2.2.2.2.2.2.2 else (if 5 = 10 then ct.1.2.1 else (if 5 = 11 then ct.2.2.2.1 else (if 5 = 12 then 0 else (if 5 = 13 then kp else -2)))))))))))))) = x_c5 ct ct.2.1.1 := rfl
theorem pa_count6 {ct : z_Ct} {kp : Int} : (if 6 = 0 then ct.1.1 else (if 6 = 1 then ct.1.2.2.1 else (if 6 = 2 then ct.2.2.2.2.1 else (if 6 = 3 then ct.1.2.2.2.1 else (if 6 = 4 then ct.2.1.1 else (if 6 = 5 then (z_it (fun j a => if ct.2.1.2.1 j = ct.2.1.2.2.2.1 j then a + 1 else a) 0 ct.2.1.1.toNat) else (if 6 = 6 then (z_it (fun j a => if 0 < ct.2.2.1.2.2.1 j then z_or a (z_p2 j) else a) 0 32) else (if 6 = 7 then (z_it (fun j a => if 0 < ct.2.2.1.2.2.2.1 j then z_or a (z_p2 j) else a) 0 32) else (if 6 = 8 then (if ct.2.2.2.2.2.2.1 = -1 then ct.1.1 else ct.1.1 - ct.2.2.2.2.2.2.1 - 1) else (if 6 = 9 then ct.2.2.2.2.2.2.2 else (if 6 = 10 then ct.1.2.1 else (if 6 = 11 then ct.2.2.2.1 else (if 6 = 12 then 0 else (if 6 = 13 then kp else -2)))))))))))))) = x_c6 ct := rfl
theorem pa_count7 {ct : z_Ct} {kp : Int} : (if 7 = 0 then ct.1.1 else (if 7 = 1 then ct.1.2.2.1 else (if 7 = 2 then ct.2.2.2.2.1 else (if 7 = 3 then ct.1.2.2.2.1 else (if 7 = 4 then ct.2.1.1 else (if 7 = 5 then (z_it (fun j a => if ct.2.1.2.1 j = ct.2.1.2.2.2.1 j then a + 1 else a) 0 ct.2.1.1.toNat) else (if 7 = 6 then (z_it (fun j a => if 0 < ct.2.2.1.2.2.1 j then z_or a (z_p2 j) else a) 0 32) else (if 7 = 7 then (z_it (fun j a => if 0 < ct.2.2.1.2.2.2.1 j then z_or a (z_p2 j) else a) 0 32) else (if 7 = 8 then (if ct.2.2.2.2.2.2.1 = -1 then ct.1.1 else ct.1.1 - ct.2.2.2.2.2.2.1 - 1) else (if 7 = 9 then ct.2.2.2.2.2.2.2 else (if 7 = 10 then ct.1.2.1 else (if 7 = 11 then ct.2.2.2.1 else (if 7 = 12 then 0 else (if 7 = 13 then kp else -2)))))))))))))) = x_c7 ct := rfl
theorem pa_count9 {ct : z_Ct} {kp : Int} : (if 9 = 0 then ct.1.1 else (if 9 = 1 then ct.1.2.2.1 else (if 9 = 2 then ct.2.2.2.2.1 else (if 9 = 3 then ct.1.2.2.2.1 else (if 9 = 4 then ct.2.1.1 else (if 9 = 5 then (z_it (fun j a => if ct.2.1.2.1 j = ct.2.1.2.2.2.1 j then a + 1 else a) 0 ct.2.1.1.toNat) else (if 9 = 6 then (z_it (fun j a => if 0 < ct.2.2.1.2.2.1 j then z_or a (z_p2 j) else a) 0 32) else (if 9 = 7 then (z_it (fun j a => if 0 < ct.2.2.1.2.2.2.1 j then z_or a (z_p2 j) else a) 0 32) else (if 9 = 8 then (if ct.2.2.2.2.2.2.1 = -1 then ct.1.1 else ct.1.1 - ct.2.2.2.2.2.2.1 - 1) else (if 9 = 9 then ct.2.2.2.2.2.2.2 else (if 9 = 10 then ct.1.2.1 else (if 9 = 11 then ct.2.2.2.1 else (if 9 = 12 then 0 else (if 9 = 13 then kp else -2)))))))))))))) = ct.2.2.2.2.2.2.2 := rfl
theorem pa_count10 {ct : z_Ct} {kp : Int} : (if 10 = 0 then ct.1.1 else (if 10 = 1 then ct.1.2.2.1 else (if 10 = 2 then ct.2.2.2.2.1 else (if 10 = 3 then ct.1.2.2.2.1 else (if 10 = 4 then ct.2.1.1 else (if 10 = 5 then (z_it (fun j a => if ct.2.1.2.1 j = ct.2.1.2.2.2.1 j then a + 1 else a) 0 ct.2.1.1.toNat) else (if 10 = 6 then (z_it (fun j a => if 0 < ct.2.2.1.2.2.1 j then z_or a (z_p2 j) else a) 0 32) else (if 10 = 7 then (z_it (fun j a => if 0 < ct.2.2.1.2.2.2.1 j then z_or a (z_p2 j) else a) 0 32) else (if 10 = 8 then (if ct.2.2.2.2.2.2.1 = -1 then ct.1.1 else ct.1.1 - ct.2.2.2.2.2.2.1 - 1) else (if 10 = 9 then ct.2.2.2.2.2.2.2 else (if 10 = 10 then ct.1.2.1 else (if 10 = 11 then ct.2.2.2.1 else (if 10 = 12 then 0 else (if 10 = 13 then kp else -2)))))))))))))) = ct.1.2.1 := rfl
theorem pa_count11 {ct : z_Ct} {kp : Int} : (if 11 = 0 then ct.1.1 else (if 11 = 1 then ct.1.2.2.1 else (if 11 = 2 then ct.2.2.2.2.1 else (if 11 = 3 then ct.1.2.2.2.1 else (if 11 = 4 then ct.2.1.1 else (if 11 = 5 then (z_it (fun j a => if ct.2.1.2.1 j = ct.2.1.2.2.2.1 j then a + 1 else a) 0 ct.2.1.1.toNat) else (if 11 = 6 then (z_it (fun j a => if 0 < ct.2.2.1.2.2.1 j then z_or a (z_p2 j) else a) 0 32) else (if 11 = 7 then (z_it (fun j a => if 0 < ct.2.2.1.2.2.2.1 j then z_or a (z_p2 j) else a) 0 32) else (if 11 = 8 then (if ct.2.2.2.2.2.2.1 = -1 then ct.1.1 else ct.1.1 - ct.2.2.2.2.2.2.1 - 1) else (if 11 = 9 then ct.2.2.2.2.2.2.2 else (if 11 = 10 then ct.1.2.1 else (if 11 = 11 then ct.2.2.2.1 else (if 11 = 12 then 0 else (if 11 = 13 then kp else -2)))))))))))))) = ct.2.2.2.1 := rfl
theorem pa_count14 {ct : z_Ct} {kp : Int} : (if 14 = 0 then ct.1.1 else (if 14 = 1 then ct.1.2.2.1 else (if 14 = 2 then ct.2.2.2.2.1 else (if 14 = 3 then ct.1.2.2.2.1 else (if 14 = 4 then ct.2.1.1 else (if 14 = 5 then (z_it (fun j a => if ct.2.1.2.1 j = ct.2.1.2.2.2.1 j then a + 1 else a) 0 ct.2.1.1.toNat) else (if 14 = 6 then (z_it (fun j a => if 0 < ct.2.2.1.2.2.1 j then z_or a (z_p2 j) else a) 0 32) else (if 14 = 7 then (z_it (fun j a => if 0 < ct.2.2.1.2.2.2.1 j then z_or a (z_p2 j) else a) 0 32) else (if 14 = 8 then (if ct.2.2.2.2.2.2.1 = -1 then ct.1.1 else ct.1.1 - ct.2.2.2.2.2.2.1 - 1) else (if 14 = 9 then ct.2.2.2.2.2.2.2 else (if 14 = 10 then ct.1.2.1 else (if 14 = 11 then ct.2.2.2.1 else (if 14 = 12 then 0 else (if 14 = 13 then kp else -2)))))))))))))) = -2 := rfl
theorem pa_count8 {ct : z_Ct} {kp : Int} (h : ct.2.2.2.2.2.2.1 = -1) : (if 8 = 0 then ct.1.1 else (if 8 = 1 then ct.1.2.2.1 else (if 8 = 2 then ct.2.2.2.2.1 else (if 8 = 3 then ct.1.2.2.2.1 else (if 8 = 4 then ct.2.1.1 else (if 8 = 5 then (z_it (fun j a => if ct.2.1.2.1 j = ct.2.1.2.2.2.1 j then a + 1 else a) 0 ct.2.1.1.toNat) else (if 8 = 6 then (z_it (fun j a => if 0 < ct.2.2.1.2.2.1 j then z_or a (z_p2 j) else a) 0 32) else (if 8 = 7 then (z_it (fun j a => if 0 < ct.2.2.1.2.2.2.1 j then z_or a (z_p2 j) else a) 0 32) else (if 8 = 8 then (if ct.2.2.2.2.2.2.1 = -1 then ct.1.1 else ct.1.1 - ct.2.2.2.2.2.2.1 - 1) else (if 8 = 9 then ct.2.2.2.2.2.2.2 else (if 8 = 10 then ct.1.2.1 else (if 8 = 11 then ct.2.2.2.1 else (if 8 = 12 then 0 else (if 8 = 13 then kp else -2)))))))))))))) = ct.1.1 := if_pos h
theorem pa_of0 {ct : z_Ct} {k : Int} (h : 0 ≤ k ∧ k < ct.1.2.1) : (if 0 ≤ k ∧ k < ct.1.2.1 then (if 0 = 0 then ct.1.2.2.2.2.1 k else if 0 = 1 then z_bit ct.1.2.2.1 k else if 0 = 2 then z_it (fun j a => a + ct.1.2.2.2.2.2.2 (k * 21 + j)) 0 21 else if 0 = 3 then z_fst (fun i => ct.1.2.2.2.2.2.2 (k * 21 + (ct.1.1 + i) % 21)) 0 21 else if 0 = 4 then ct.1.2.2.2.2.2.1 k else -2) else -1) = ct.1.2.2.2.2.1 k := (if_pos h).trans rfl
theorem pa_of1 {ct : z_Ct} {k : Int} (h : 0 ≤ k ∧ k < ct.1.2.1) : (if 0 ≤ k ∧ k < ct.1.2.1 then (if 1 = 0 then ct.1.2.2.2.2.1 k else if 1 = 1 then z_bit ct.1.2.2.1 k else if 1 = 2 then z_it (fun j a => a + ct.1.2.2.2.2.2.2 (k * 21 + j)) 0 21 else if 1 = 3 then z_fst (fun i => ct.1.2.2.2.2.2.2 (k * 21 + (ct.1.1 + i) % 21)) 0 21 else if 1 = 4 then ct.1.2.2.2.2.2.1 k else -2) else -1) = z_bit ct.1.2.2.1 k := (if_pos h).trans rfl
theorem pa_of2 {ct : z_Ct} {k : Int} (h : 0 ≤ k ∧ k < ct.1.2.1) : (if 0 ≤ k ∧ k < ct.1.2.1 then (if 2 = 0 then ct.1.2.2.2.2.1 k else if 2 = 1 then z_bit ct.1.2.2.1 k else if 2 = 2 then z_it (fun j a => a + ct.1.2.2.2.2.2.2 (k * 21 + j)) 0 21 else if 2 = 3 then z_fst (fun i => ct.1.2.2.2.2.2.2 (k * 21 + (ct.1.1 + i) % 21)) 0 21 else if 2 = 4 then ct.1.2.2.2.2.2.1 k else -2) else -1) = x_o2 ct k := (if_pos h).trans rfl
theorem pa_of3 {ct : z_Ct} {k : Int} (h : 0 ≤ k ∧ k < ct.1.2.1) : (if 0 ≤ k ∧ k < ct.1.2.1 then (if 3 = 0 then ct.1.2.2.2.2.1 k else if 3 = 1 then z_bit ct.1.2.2.1 k else if 3 = 2 then z_it (fun j a => a + ct.1.2.2.2.2.2.2 (k * 21 + j)) 0 21 else if 3 = 3 then z_fst (fun i => ct.1.2.2.2.2.2.2 (k * 21 + (ct.1.1 + i) % 21)) 0 21 else if 3 = 4 then ct.1.2.2.2.2.2.1 k else -2) else -1) = x_o3 ct k := (if_pos h).trans rfl
theorem pa_of4 {ct : z_Ct} {k : Int} (h : 0 ≤ k ∧ k < ct.1.2.1) : (if 0 ≤ k ∧ k < ct.1.2.1 then (if 4 = 0 then ct.1.2.2.2.2.1 k else if 4 = 1 then z_bit ct.1.2.2.1 k else if 4 = 2 then z_it (fun j a => a + ct.1.2.2.2.2.2.2 (k * 21 + j)) 0 21 else if 4 = 3 then z_fst (fun i => ct.1.2.2.2.2.2.2 (k * 21 + (ct.1.1 + i) % 21)) 0 21 else if 4 = 4 then ct.1.2.2.2.2.2.1 k else -2) else -1) = ct.1.2.2.2.2.2.1 k := (if_pos h).trans rfl
theorem pa_ofN {ct : z_Ct} {k w : Int} (h : ¬ (0 ≤ k ∧ k < ct.1.2.1)) : (if 0 ≤ k ∧ k < ct.1.2.1 then (if w = 0 then ct.1.2.2.2.2.1 k else if w = 1 then z_bit ct.1.2.2.1 k else if w = 2 then z_it (fun j a => a + ct.1.2.2.2.2.2.2 (k * 21 + j)) 0 21 else if w = 3 then z_fst (fun i => ct.1.2.2.2.2.2.2 (k * 21 + (ct.1.1 + i) % 21)) 0 21 else if w = 4 then ct.1.2.2.2.2.2.1 k else -2) else -1) = -1 := if_neg h
theorem pa_seen0 {ct : z_Ct} {k : Int} (h : 0 ≤ k ∧ k < ct.2.2.1.1) : (if 0 ≤ k ∧ k < ct.2.2.1.1 then (if 0 = 0 then ct.2.2.1.2.1 k else if 0 = 1 then ct.2.2.1.2.2.1 (ct.2.2.1.2.1 k) else if 0 = 2 then ct.2.2.1.2.2.2.1 (ct.2.2.1.2.1 k) else if 0 = 3 then ct.2.2.1.2.2.2.2 (ct.2.2.1.2.1 k) else -2) else -1) = ct.2.2.1.2.1 k := (if_pos h).trans rfl
theorem pa_seen1 {ct : z_Ct} {k : Int} (h : 0 ≤ k ∧ k < ct.2.2.1.1) : (if 0 ≤ k ∧ k < ct.2.2.1.1 then (if 1 = 0 then ct.2.2.1.2.1 k else if 1 = 1 then ct.2.2.1.2.2.1 (ct.2.2.1.2.1 k) else if 1 = 2 then ct.2.2.1.2.2.2.1 (ct.2.2.1.2.1 k) else if 1 = 3 then ct.2.2.1.2.2.2.2 (ct.2.2.1.2.1 k) else -2) else -1) = ct.2.2.1.2.2.1 (ct.2.2.1.2.1 k) := (if_pos h).trans rfl
theorem pa_seen2 {ct : z_Ct} {k : Int} (h : 0 ≤ k ∧ k < ct.2.2.1.1) : (if 0 ≤ k ∧ k < ct.2.2.1.1 then (if 2 = 0 then ct.2.2.1.2.1 k else if 2 = 1 then ct.2.2.1.2.2.1 (ct.2.2.1.2.1 k) else if 2 = 2 then ct.2.2.1.2.2.2.1 (ct.2.2.1.2.1 k) else if 2 = 3 then ct.2.2.1.2.2.2.2 (ct.2.2.1.2.1 k) else -2) else -1) = ct.2.2.1.2.2.2.1 (ct.2.2.1.2.1 k) := (if_pos h).trans rfl
theorem pa_seen3 {ct : z_Ct} {k : Int} (h : 0 ≤ k ∧ k < ct.2.2.1.1) : (if 0 ≤ k ∧ k < ct.2.2.1.1 then (if 3 = 0 then ct.2.2.1.2.1 k else if 3 = 1 then ct.2.2.1.2.2.1 (ct.2.2.1.2.1 k) else if 3 = 2 then ct.2.2.1.2.2.2.1 (ct.2.2.1.2.1 k) else if 3 = 3 then ct.2.2.1.2.2.2.2 (ct.2.2.1.2.1 k) else -2) else -1) = ct.2.2.1.2.2.2.2 (ct.2.2.1.2.1 k) := (if_pos h).trans rfl
theorem pa_seenN {ct : z_Ct} {k w : Int} (h : ¬ (0 ≤ k ∧ k < ct.2.2.1.1)) : (if 0 ≤ k ∧ k < ct.2.2.1.1 then (if w = 0 then ct.2.2.1.2.1 k else if w = 1 then ct.2.2.1.2.2.1 (ct.2.2.1.2.1 k) else if w = 2 then ct.2.2.1.2.2.2.1 (ct.2.2.1.2.1 k) else if w = 3 then ct.2.2.1.2.2.2.2 (ct.2.2.1.2.1 k) else -2) else -1) = -1 := if_neg h
theorem pa_reading0 {ct : z_Ct} {k : Int} (h : 0 ≤ k ∧ k < ct.2.1.1) : (if 0 ≤ k ∧ k < ct.2.1.1 then (if 0 = 0 then ct.2.1.2.1 k else if 0 = 1 then ct.2.1.2.2.1 k else if 0 = 2 then ct.2.1.2.2.2.1 k else if 0 = 3 then (if ct.2.1.2.2.2.2 k = 0 then 0 else 1) else if 0 = 4 then (if ct.2.1.2.1 k = ct.2.1.2.2.2.1 k then 1 else 0) else -2) else -1) = ct.2.1.2.1 k := (if_pos h).trans rfl
theorem pa_reading1 {ct : z_Ct} {k : Int} (h : 0 ≤ k ∧ k < ct.2.1.1) : (if 0 ≤ k ∧ k < ct.2.1.1 then (if 1 = 0 then ct.2.1.2.1 k else if 1 = 1 then ct.2.1.2.2.1 k else if 1 = 2 then ct.2.1.2.2.2.1 k else if 1 = 3 then (if ct.2.1.2.2.2.2 k = 0 then 0 else 1) else if 1 = 4 then (if ct.2.1.2.1 k = ct.2.1.2.2.2.1 k then 1 else 0) else -2) else -1) = ct.2.1.2.2.1 k := (if_pos h).trans rfl
theorem pa_reading2 {ct : z_Ct} {k : Int} (h : 0 ≤ k ∧ k < ct.2.1.1) : (if 0 ≤ k ∧ k < ct.2.1.1 then (if 2 = 0 then ct.2.1.2.1 k else if 2 = 1 then ct.2.1.2.2.1 k else if 2 = 2 then ct.2.1.2.2.2.1 k else if 2 = 3 then (if ct.2.1.2.2.2.2 k = 0 then 0 else 1) else if 2 = 4 then (if ct.2.1.2.1 k = ct.2.1.2.2.2.1 k then 1 else 0) else -2) else -1) = ct.2.1.2.2.2.1 k := (if_pos h).trans rfl
theorem pa_reading3 {ct : z_Ct} {k : Int} (h : 0 ≤ k ∧ k < ct.2.1.1) : (if 0 ≤ k ∧ k < ct.2.1.1 then (if 3 = 0 then ct.2.1.2.1 k else if 3 = 1 then ct.2.1.2.2.1 k else if 3 = 2 then ct.2.1.2.2.2.1 k else if 3 = 3 then (if ct.2.1.2.2.2.2 k = 0 then 0 else 1) else if 3 = 4 then (if ct.2.1.2.1 k = ct.2.1.2.2.2.1 k then 1 else 0) else -2) else -1) = (if ct.2.1.2.2.2.2 k = 0 then 0 else 1) := (if_pos h).trans rfl
theorem pa_reading4y {ct : z_Ct} {k : Int} (h : 0 ≤ k ∧ k < ct.2.1.1) (h2 : ct.2.1.2.1 k = ct.2.1.2.2.2.1 k) : (if 0 ≤ k ∧ k < ct.2.1.1 then (if 4 = 0 then ct.2.1.2.1 k else if 4 = 1 then ct.2.1.2.2.1 k else if 4 = 2 then ct.2.1.2.2.2.1 k else if 4 = 3 then (if ct.2.1.2.2.2.2 k = 0 then 0 else 1) else if 4 = 4 then (if ct.2.1.2.1 k = ct.2.1.2.2.2.1 k then 1 else 0) else -2) else -1) = 1 := (if_pos h).trans (if_pos h2)
theorem pa_reading4n {ct : z_Ct} {k : Int} (h : 0 ≤ k ∧ k < ct.2.1.1) (h2 : ¬ ct.2.1.2.1 k = ct.2.1.2.2.2.1 k) : (if 0 ≤ k ∧ k < ct.2.1.1 then (if 4 = 0 then ct.2.1.2.1 k else if 4 = 1 then ct.2.1.2.2.1 k else if 4 = 2 then ct.2.1.2.2.2.1 k else if 4 = 3 then (if ct.2.1.2.2.2.2 k = 0 then 0 else 1) else if 4 = 4 then (if ct.2.1.2.1 k = ct.2.1.2.2.2.1 k then 1 else 0) else -2) else -1) = 0 := (if_pos h).trans (if_neg h2)
theorem pa_readingN {ct : z_Ct} {k w : Int} (h : ¬ (0 ≤ k ∧ k < ct.2.1.1)) : (if 0 ≤ k ∧ k < ct.2.1.1 then (if w = 0 then ct.2.1.2.1 k else if w = 1 then ct.2.1.2.2.1 k else if w = 2 then ct.2.1.2.2.2.1 k else if w = 3 then (if ct.2.1.2.2.2.2 k = 0 then 0 else 1) else if w = 4 then (if ct.2.1.2.1 k = ct.2.1.2.2.2.1 k then 1 else 0) else -2) else -1) = -1 := if_neg h
theorem pa_stillIn {ct : z_Ct} : ((z_si ct.1 0 101).1) = x_si0 ct := rfl
theorem pa_showsIn0 {ct : z_Ct} {tr : z_Wv} : ((z_sh ct.1 tr 0).1) = ct.1.2.2.1 := rfl
theorem pa_showsIn {ct : z_Ct} {tr : z_Wv} {k : Int} (h : 0 ≤ k ∧ k ≤ 99) : ((z_sh ct.1 tr k).1) = (z_ps ct k.toNat).1.1.2.2.1 := by
  unfold z_sh
  rw [if_pos h, z_wn_ps]
theorem pa_wrong {ct : z_Ct} {k : Int} (h : 1 ≤ k ∧ k ≤ 50) : (if 1 ≤ k ∧ k ≤ 50 then z_it (fun j a => if z_rt ct.1.2.2.2.2.1 (j + 1) k 0 0 ct.1.2.1.toNat = 0 then a + 1 else a) 0 (z_p2 ct.1.2.1).toNat else -2) = z_wc ct.1.2.1 ct.1.2.2.2.2.1 k := if_pos h
theorem pa_wrongN {ct : z_Ct} {k : Int} (h : ¬ (1 ≤ k ∧ k ≤ 50)) : (if 1 ≤ k ∧ k ≤ 50 then z_it (fun j a => if z_rt ct.1.2.2.2.2.1 (j + 1) k 0 0 ct.1.2.1.toNat = 0 then a + 1 else a) 0 (z_p2 ct.1.2.1).toNat else -2) = -2 := if_neg h
theorem pa_safeGapY {ct : z_Ct} (h : z_sf ct.1.2.1 ct.1.2.2.2.2.1 ≤ 50) : (if (if 50 < (z_it (fun j a => a + ct.1.2.2.2.2.1 j) 0 ct.1.2.1.toNat) then 50 else (z_it (fun j a => a + ct.1.2.2.2.2.1 j) 0 ct.1.2.1.toNat)) + 1 ≤ 50 then (if 50 < (z_it (fun j a => a + ct.1.2.2.2.2.1 j) 0 ct.1.2.1.toNat) then 50 else (z_it (fun j a => a + ct.1.2.2.2.2.1 j) 0 ct.1.2.1.toNat)) + 1 else -6) = z_sf ct.1.2.1 ct.1.2.2.2.2.1 := if_pos h
theorem pa_safeGapN {ct : z_Ct} (h : ¬ z_sf ct.1.2.1 ct.1.2.2.2.2.1 ≤ 50) : (if (if 50 < (z_it (fun j a => a + ct.1.2.2.2.2.1 j) 0 ct.1.2.1.toNat) then 50 else (z_it (fun j a => a + ct.1.2.2.2.2.1 j) 0 ct.1.2.1.toNat)) + 1 ≤ 50 then (if 50 < (z_it (fun j a => a + ct.1.2.2.2.2.1 j) 0 ct.1.2.1.toNat) then 50 else (z_it (fun j a => a + ct.1.2.2.2.2.1 j) 0 ct.1.2.1.toNat)) + 1 else -6) = -6 := if_neg h
theorem pa_toBlame0 {ct : z_Ct} : (if 0 = 0 then (z_tb ct.1.2.1 ct.1.2.2.2.2.1).1 else if 0 = 1 then (z_tb ct.1.2.1 ct.1.2.2.2.2.1).2 else -2) = (z_tb ct.1.2.1 ct.1.2.2.2.2.1).1 := rfl
theorem pa_toBlame1 {ct : z_Ct} : (if 1 = 0 then (z_tb ct.1.2.1 ct.1.2.2.2.2.1).1 else if 1 = 1 then (z_tb ct.1.2.1 ct.1.2.2.2.2.1).2 else -2) = (z_tb ct.1.2.1 ct.1.2.2.2.2.1).2 := rfl
theorem pa_toBlame2 {ct : z_Ct} : (if 2 = 0 then (z_tb ct.1.2.1 ct.1.2.2.2.2.1).1 else if 2 = 1 then (z_tb ct.1.2.1 ct.1.2.2.2.2.1).2 else -2) = -2 := rfl
/-! ===== what holds of them ===== -/
theorem x_bas {ct : z_Ct} (h : x_ok ct) : 0 ≤ ct.1.1 ∧ (1 ≤ ct.1.2.1 ∧ ct.1.2.1 ≤ 5) ∧ (2 ≤ z_p2 ct.1.2.1 ∧ z_p2 ct.1.2.1 ≤ 32) ∧ (0 ≤ ct.1.2.2.1 ∧ ct.1.2.2.1 < z_p2 ct.1.2.1) ∧ (0 ≤ ct.1.2.2.2.1 ∧ ct.1.2.2.2.1 ≤ 5 * (ct.1.1 + 1)) ∧ (0 ≤ ct.2.2.2.2.1 ∧ ct.2.2.2.2.1 < z_p2 ct.1.2.1) ∧ (0 ≤ ct.2.1.1 ∧ ct.2.1.1 ≤ 99) ∧ (ct.2.2.2.2.2.2.2 = 0 ∨ ct.2.2.2.2.2.2.2 = 1) ∧ (0 ≤ ct.2.2.2.1 ∧ ct.2.2.2.1 ≤ 20) ∧ (-1 ≤ ct.2.2.2.2.2.1 ∧ ct.2.2.2.2.2.1 ≤ ct.1.1) ∧ (-1 ≤ ct.2.2.2.2.2.2.1 ∧ ct.2.2.2.2.2.2.1 ≤ ct.1.1 - 1) ∧ ct.2.1.1 + ct.2.2.2.2.2.2.2 ≤ 99 ∧ (0 ≤ ct.2.2.1.1 ∧ ct.2.2.1.1 ≤ 32) ∧ (ct.2.2.2.2.2.1 = ct.1.1 → 0 < ct.1.2.2.2.1) ∧ (ct.1.2.2.2.1 = 0 → ct.1.2.2.1 = ct.2.2.2.2.1) := by
  have h1 := h.1
  have hw := h1.1
  have how := z_wok_ow hw
  have hlc := h1.2.2.2.2.2.1
  have hp := z_p2_le (k := ct.1.2.1) (by have := hw.2.1; omega)
  have hp2 : 2 ≤ z_p2 ct.1.2.1 := by
    have hs := hw.2.1
    rcases (show ct.1.2.1 = 1 ∨ ct.1.2.1 = 2 ∨ ct.1.2.1 = 3 ∨ ct.1.2.1 = 4 ∨ ct.1.2.1 = 5 by omega) with q | q | q | q | q <;> rw [q] <;> decide
  exact ⟨hw.1, hw.2.1, ⟨hp2, hp.2⟩, hw.2.2.1, ⟨how.1, by omega⟩, h1.2.2.2.2.1, h1.2.1.1, h1.2.2.2.2.2.2.2.1, h1.2.2.2.1, hlc, h1.2.2.2.2.2.2.1, h1.2.2.2.2.2.2.2.2, h1.2.2.1.1, h.2.2.1, x_still h⟩
theorem x_cnt {ct : z_Ct} (h : x_ok ct) : ct.2.2.2.2.1 = (ct.1.2.2.2.2.2.1 0 + x_o2 ct 0) % z_p2 ct.1.2.1 ∧ ct.1.2.2.2.2.2.1 0 + x_o2 ct 0 ≤ ct.1.1 + 1 := by
  have hw := h.1.1
  have hlc := h.1.2.2.2.2.2.1
  have e : x_o2 ct 0 = z_S ct.1.2.2.2.2.2.2 0 21 := by
    unfold x_o2
    rw [Int.zero_mul]
  rw [e]
  exact ⟨h.2.1, Int.le_trans hw.2.2.2.2.2.2.1 (by omega)⟩
theorem x_dnB {ct : z_Ct} (h : x_ok ct) : ∀ n : Nat, (n : Int) < ct.1.2.1 → ct.1.2.2.2.2.2.1 n + x_o2 ct n ≤ ct.1.1 + 1
  | 0, _ => (x_cnt h).2
  | n + 1, hn => by
    have h1 := x_dnB h n (by omega)
    have hw := h.1.1
    have h2 := hw.2.2.2.2.2.2.2.1 n (by omega) (by omega)
    have h3 := hw.2.2.2.2.2.1 n (by omega) (by have := hw.2.1; omega)
    have h4 := (x_due h.1 (k := (n : Int)) ⟨by omega, by have := hw.2.1; omega⟩).2.2.1
    have h5 : 0 ≤ x_o2 ct n := h4
    rw [show ((n + 1 : Nat) : Int) = (n : Int) + 1 by omega]
    have h6 : ct.1.2.2.2.2.2.1 ((n : Int) + 1) + x_o2 ct ((n : Int) + 1) = ct.1.2.2.2.2.2.1 n / 2 := h2
    omega
theorem x_stg {ct : z_Ct} (h : x_ok ct) {k : Int} (hk : 0 ≤ k ∧ k < ct.1.2.1) : (1 ≤ ct.1.2.2.2.2.1 k ∧ ct.1.2.2.2.2.1 k ≤ 20) ∧ z_bit ct.1.2.2.1 k = ct.1.2.2.2.2.2.1 k % 2 ∧ (0 ≤ ct.1.2.2.2.2.2.1 k ∧ ct.1.2.2.2.2.2.1 k ≤ ct.1.1 + 1) ∧ (0 ≤ x_o2 ct k ∧ x_o2 ct k ≤ ct.1.1 + 1) ∧ (x_o2 ct k = 0 ↔ x_o3 ct k = -6) ∧ (-6 ≤ x_o3 ct k ∧ x_o3 ct k ≤ 20) ∧ (0 < k → ct.1.2.2.2.2.2.1 k + x_o2 ct k = ct.1.2.2.2.2.2.1 (k - 1) / 2 ∧ 0 ≤ ct.1.2.2.2.2.2.1 (k - 1) ∧ ct.1.2.2.2.2.2.1 (k - 1) ≤ ct.1.1 + 1) := by
  have hw := h.1.1
  have hs := hw.2.1
  obtain ⟨n, rfl⟩ := Int.eq_ofNat_of_zero_le hk.1
  have h1 := x_dnB h n hk.2
  have h2 := hw.2.2.2.2.2.1 n (by omega) (by omega)
  obtain ⟨d1, d2, d3, d4⟩ := x_due h.1 (k := (n : Int)) ⟨by omega, by omega⟩
  have h5 : 0 ≤ x_o2 ct n := d3
  refine ⟨hw.2.2.2.1 n (by omega) (by omega), hw.2.2.2.2.2.2.2.2.1 n hk.1 hk.2, ⟨h2, by omega⟩, ⟨d3, by omega⟩, d1, ⟨d4, d2⟩, fun h0 => ?_⟩
  have h6 := hw.2.2.2.2.2.2.2.1 ((n : Int) - 1) (by omega) (by omega)
  rw [show (n : Int) - 1 + 1 = n by omega] at h6
  have h7 := hw.2.2.2.2.2.1 ((n : Int) - 1) (by omega) (by omega)
  have h8 := x_dnB h (n - 1) (by omega)
  rw [show ((n - 1 : Nat) : Int) = (n : Int) - 1 by omega] at h8
  have h9 := (x_due h.1 (k := (n : Int) - 1) ⟨by omega, by omega⟩).2.2.1
  have h10 : 0 ≤ x_o2 ct ((n : Int) - 1) := h9
  exact ⟨h6, h7, by omega⟩
/-- the sums of isCounter's loop and of passes' -/
def x_pS (ct : z_Ct) (k : Int) : Int := z_it (fun k a => a + z_bit ct.1.2.2.1 k * z_p2 k) 0 k.toNat
def x_pW (ct : z_Ct) (k : Int) : Int := z_it (fun k a => a + x_o2 ct k) 0 k.toNat
def x_pD (ct : z_Ct) (k : Int) : Int := z_S ct.1.2.2.2.2.2.1 0 k.toNat
theorem x_pS_s {ct : z_Ct} {k : Int} (h : 0 ≤ k) : x_pS ct (k + 1) = x_pS ct k + z_bit ct.1.2.2.1 k * z_p2 k := z_it_next _ _ h
theorem x_pW_s {ct : z_Ct} {k : Int} (h : 0 ≤ k) : x_pW ct (k + 1) = x_pW ct k + x_o2 ct k := z_it_next _ _ h
theorem x_pD_s {ct : z_Ct} {k : Int} (h : 0 ≤ k) : x_pD ct (k + 1) = x_pD ct k + ct.1.2.2.2.2.2.1 k := by
  obtain ⟨n, rfl⟩ := Int.eq_ofNat_of_zero_le h
  show z_S ct.1.2.2.2.2.2.1 0 n + ct.1.2.2.2.2.2.1 (0 + (n : Int)) = _
  rw [Int.zero_add]
  rfl
theorem x_pS_e {ct : z_Ct} (h : x_ok ct) : x_pS ct ct.1.2.1 = ct.1.2.2.1 := x_shows h.1
theorem x_pW_e {ct : z_Ct} (h : x_ok ct) : x_pW ct ct.1.2.1 = ct.1.2.2.2.1 := x_way h.1
theorem x_pS_rng {ct : z_Ct} : ∀ n : Nat, n ≤ 5 → 0 ≤ x_pS ct n ∧ x_pS ct n < z_p2 n
  | 0, _ => ⟨Int.le_refl _, by show (0 : Int) < z_p2 ((0 : Nat) : Int); decide⟩
  | n + 1, hn => by
    have h1 := x_pS_rng (ct := ct) n (by omega)
    have h2 := x_pS_s (ct := ct) (k := (n : Int)) (by omega)
    rw [show ((n + 1 : Nat) : Int) = (n : Int) + 1 by omega, h2]
    have h3 : z_p2 ((n : Int) + 1) = 2 * z_p2 n := by
      rw [show (n : Int) + 1 = ((n + 1 : Nat) : Int) by omega, z_p2_nat, z_p2_nat, Nat.pow_succ]
      omega
    rcases z_bit01 ct.1.2.2.1 n with q | q <;> rw [q] <;> omega
theorem x_pS_r {ct : z_Ct} {k : Int} (h : 0 ≤ k ∧ k ≤ 5) : 0 ≤ x_pS ct k ∧ x_pS ct k ≤ 32 := by
  obtain ⟨n, rfl⟩ := Int.eq_ofNat_of_zero_le h.1
  have h1 := x_pS_rng (ct := ct) n (by omega)
  have h2 := z_p2_le (k := (n : Int)) (by omega)
  omega
theorem x_pW_rng {ct : z_Ct} (h : x_ok ct) : ∀ n : Nat, (n : Int) ≤ ct.1.2.1 → 0 ≤ x_pW ct n ∧ x_pW ct n ≤ n * (ct.1.1 + 1)
  | 0, _ => ⟨Int.le_refl _, by show (0 : Int) ≤ _; rw [Int.natCast_zero, Int.zero_mul]; exact Int.le_refl _⟩
  | n + 1, hn => by
    have h1 := x_pW_rng h n (by omega)
    have h2 := x_pW_s (ct := ct) (k := (n : Int)) (by omega)
    have h3 := (x_stg h (k := (n : Int)) ⟨by omega, by omega⟩).2.2.2.1
    rw [show ((n + 1 : Nat) : Int) = (n : Int) + 1 by omega, h2, Int.add_mul, Int.one_mul]
    omega
theorem x_pW_r {ct : z_Ct} (h : x_ok ct) {k : Int} (hk : 0 ≤ k ∧ k ≤ ct.1.2.1) : 0 ≤ x_pW ct k ∧ x_pW ct k ≤ 5 * (ct.1.1 + 1) := by
  obtain ⟨n, rfl⟩ := Int.eq_ofNat_of_zero_le hk.1
  have h1 := x_pW_rng h n hk.2
  have h2 := h.1.1.2.1
  have h3 := h.1.1.1
  have h4 : (n : Int) * (ct.1.1 + 1) ≤ 5 * (ct.1.1 + 1) := Int.mul_le_mul_of_nonneg_right (by omega) (by omega)
  omega
theorem x_pD_rng {ct : z_Ct} (h : x_ok ct) : ∀ n : Nat, (n : Int) ≤ ct.1.2.1 → 0 ≤ x_pD ct n ∧ x_pD ct n ≤ n * (ct.1.1 + 1)
  | 0, _ => ⟨Int.le_refl _, by show (0 : Int) ≤ _; rw [Int.natCast_zero, Int.zero_mul]; exact Int.le_refl _⟩
  | n + 1, hn => by
    have h1 := x_pD_rng h n (by omega)
    have h2 := x_pD_s (ct := ct) (k := (n : Int)) (by omega)
    have h3 := (x_stg h (k := (n : Int)) ⟨by omega, by omega⟩).2.2.1
    rw [show ((n + 1 : Nat) : Int) = (n : Int) + 1 by omega, h2, Int.add_mul, Int.one_mul]
    omega
theorem x_pD_r {ct : z_Ct} (h : x_ok ct) {k : Int} (hk : 0 ≤ k ∧ k ≤ ct.1.2.1) : 0 ≤ x_pD ct k ∧ x_pD ct k ≤ 5 * (ct.1.1 + 1) := by
  obtain ⟨n, rfl⟩ := Int.eq_ofNat_of_zero_le hk.1
  have h1 := x_pD_rng h n hk.2
  have h2 := h.1.1.2.1
  have h3 := h.1.1.1
  have h4 : (n : Int) * (ct.1.1 + 1) ≤ 5 * (ct.1.1 + 1) := Int.mul_le_mul_of_nonneg_right (by omega) (by omega)
  omega
theorem x_bit01 (x k : Int) : 0 ≤ z_bit x k ∧ z_bit x k < 2 := by
  rcases z_bit01 x k with q | q <;> rw [q] <;> decide
theorem x_si_r {ct : z_Ct} (h : z_ok ct) : 0 ≤ x_si0 ct ∧ x_si0 ct ≤ 101 ∧ (x_si0 ct = 0 ↔ ct.1.2.2.2.1 = 0) := x_stillIn h

