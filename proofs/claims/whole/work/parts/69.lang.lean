theorem s_var {u : BS} (th : Int32) {r : Int32} (hr : rg 16 r) : mq_v (aM th u) r.toNatClampNeg = f_X1_variable u r := by
  obtain ⟨h1, h2⟩ := ix_15 hr
  unfold f_X1_variable
  rw [h1, m_vars h2]
theorem s_putV2 {u : BS} (th : Int32) {r : Int32} (hr : rg 16 r) (z : Int32) : ms_v (aM th u) (upd (mq_v (aM th u)) r.toNatClampNeg (z &&& 255)) = aM th (f_X1_putVariable u r z) := by
  obtain ⟨h1, h2⟩ := ix_15 hr
  rw [M_vars h2]
  show _ = aM th (bs_vars u (upd (bq_vars u) ((r &&& 15)).toNatClampNeg (z &&& 255)))
  rw [h1]
theorem s_putV {u : BS} (th : Int32) {r z : Int32} (hr : rg 16 r) (hz : rg 256 z) : ms_v (aM th u) (upd (mq_v (aM th u)) r.toNatClampNeg z) = aM th (f_X1_putVariable u r z) := by
  have e := s_putV2 (u := u) th hr z
  rw [id_255 hz] at e
  exact e
theorem s_put15 {u : BS} (th : Int32) {z : Int32} (hz : rg 256 z) : ms_v (aM th u) (upd (mq_v (aM th u)) 15 z) = aM th (f_X1_putVariable u 15 z) := s_putV (r := 15) th (rg_k 15 (by decide)) hz
theorem r_var {u : BS} (h : Inv u) (r : Int32) : rg 256 (f_X1_variable u r) := r_vars h (ix_and 4 r (by decide) rfl)
theorem i_putV {u : BS} (h : Inv u) (r z : Int32) : Inv (f_X1_putVariable u r z) := i_vars h (rg_255 _)
theorem i_jump {u : BS} (h : Inv u) (z : Int32) : Inv (f_X1_jump u z) := i_pc h (rg_4095 _)
theorem i_putI {u : BS} (h : Inv u) (z : Int32) : Inv (f_X1_putIndex u z) := i_index h (rg_4095 _)
def up (u : BS) : BS := bs_pc u ((bq_pc u + 2) &&& 4095)
theorem i_up {u : BS} (h : Inv u) : Inv (up u) := i_pc h (rg_4095 _)
theorem go0 (th : Int32) (w : BS) : f_X7_goesOn (aM th w) 0 = aM th (up w) := (if_pos rfl).trans (M_pc th w _)
theorem go1 (th : Int32) (w : BS) : f_X7_goesOn (aM th w) 1 = aM th (bs_pc w ((bq_pc w + 4) &&& 4095)) := (if_neg (by decide)).trans (M_pc th w _)
theorem skip0 (w : BS) : f_X1_skipIf w 0 = (0, w) := if_pos rfl
theorem skip1 {u : BS} (h : Inv u) : f_X1_skipIf (up u) 1 = (0, bs_pc u ((bq_pc u + 4) &&& 4095)) := by
  have e : (((bq_pc u + 2) &&& 4095) + 2) &&& 4095 = (bq_pc u + 4) &&& 4095 := by
    obtain ⟨k, hk, q⟩ := r_pc h
    rw [q, show nI k + 2 = nI (k + 2) from nI_add k 2, show nI k + 4 = nI (k + 4) from nI_add k 4, pk_andN (by omega) 12 rfl, show nI ((k + 2) % 2 ^ 12) + 2 = nI ((k + 2) % 2 ^ 12 + 2) from nI_add _ 2, pk_andN (by omega) 12 rfl, pk_andN (by omega) 12 rfl]
    exact congrArg nI (by omega)
  have e1 : f_X1_skipIf (up u) 1 = (0, bs_pc u ((((bq_pc u + 2) &&& 4095) + 2) &&& 4095)) := if_neg (by decide)
  rw [e1, e]
/-- a step of the language: class and model -/
def LR (th : Int32) (u : BS) (R : Int32 × BS) (M : Int32 × MS) : Prop := (R.1 = 0 ∧ M = (0, aM th R.2) ∧ Inv R.2) ∨ (R = (1, up u) ∧ M = (3, aM th u)) ∨ (R = (2, up u) ∧ M = (1, aM th u)) ∨ (R = (3, up u) ∧ M = (2, aM th u))
theorem LR0 {th : Int32} {u w : BS} {R : Int32 × BS} {M : Int32 × MS} (hR : R = (0, w)) (hM : M = (0, aM th w)) (hI : Inv w) : LR th u R M := by
  subst hR; exact Or.inl ⟨rfl, hM, hI⟩
theorem LRw {th : Int32} {u : BS} {R : Int32 × BS} {M : Int32 × MS} (hR : R = (1, up u)) (hM : M = (3, aM th u)) : LR th u R M := Or.inr (Or.inl ⟨hR, hM⟩)
theorem LRu {th : Int32} {u : BS} {R : Int32 × BS} {M : Int32 × MS} (hR : R = (2, up u)) (hM : M = (1, aM th u)) : LR th u R M := Or.inr (Or.inr (Or.inl ⟨hR, hM⟩))
theorem LRs {th : Int32} {u : BS} {R : Int32 × BS} {M : Int32 × MS} (hR : R = (3, up u)) (hM : M = (2, aM th u)) : LR th u R M := Or.inr (Or.inr (Or.inr ⟨hR, hM⟩))
theorem LR_s1 {th : Int32} {u : BS} {M : Int32 × MS} (h : Inv u) (hM : M = (0, f_X7_goesOn (aM th u) 1)) : LR th u (f_X1_skipIf (up u) 1) M := LR0 (skip1 h) (by rw [hM, go1]) (i_pc h (rg_4095 _))
theorem LR_s0 {th : Int32} {u : BS} {M : Int32 × MS} (h : Inv u) (hM : M = (0, f_X7_goesOn (aM th u) 0)) : LR th u (f_X1_skipIf (up u) 0) M := LR0 (skip0 _) (by rw [hM, go0]) (i_up h)
theorem Z_pwf (u : BS) (x z f : Int32) : f_X1_putWithFlag u x z f = (if f = 0 then (0, (f_X1_putVariable (f_X1_putVariable u x z) 15 0)) else (0, (f_X1_putVariable (f_X1_putVariable u x z) 15 1))) := rfl
theorem pf0 (u : BS) (x z : Int32) : f_X1_putWithFlag u x z 0 = (0, f_X1_putVariable (f_X1_putVariable u x z) 15 0) := (Z_pwf u x z 0).trans (if_pos rfl)
theorem pf1 (u : BS) (x z : Int32) : f_X1_putWithFlag u x z 1 = (0, f_X1_putVariable (f_X1_putVariable u x z) 15 1) := (Z_pwf u x z 1).trans (if_neg (by decide))
theorem s_flag {u : BS} (th : Int32) {r f : Int32} (hr : rg 16 r) (hf : rg 256 f) (z : Int32) : f_X7_goesOn (ms_v (ms_v (aM th u) (upd (mq_v (aM th u)) r.toNatClampNeg (z &&& 255))) (upd (mq_v (ms_v (aM th u) (upd (mq_v (aM th u)) r.toNatClampNeg (z &&& 255)))) 15 f)) 0 = aM th (f_X1_putVariable (f_X1_putVariable (up u) r z) 15 f) := by
  rw [s_putV2 th hr, s_put15 th hf, go0]; rfl
theorem r0_256 : rg 256 0 := rg_0 (by decide)
theorem r1_256 : rg 256 1 := ⟨1, by decide, by decide⟩
theorem v_up (u : BS) (r : Int32) : f_X1_variable (up u) r = f_X1_variable u r := rfl
theorem Z_eight (m : MS) (x y n : Int32) : f_X7_eight m x y n = (if n = 0 then (0, (f_X7_goesOn (ms_v m (upd (mq_v m) (x).toNatClampNeg (((mq_v m (y).toNatClampNeg)) &&& 255))) 0)) else (if n = 1 then (0, (f_X7_goesOn (ms_v m (upd (mq_v m) (x).toNatClampNeg (((((mq_v m (x).toNatClampNeg)) ||| ((mq_v m (y).toNatClampNeg)))) &&& 255))) 0)) else (if n = 2 then (0, (f_X7_goesOn (ms_v m (upd (mq_v m) (x).toNatClampNeg (((((mq_v m (x).toNatClampNeg)) &&& ((mq_v m (y).toNatClampNeg)))) &&& 255))) 0)) else (if n = 3 then (0, (f_X7_goesOn (ms_v m (upd (mq_v m) (x).toNatClampNeg (((((mq_v m (x).toNatClampNeg)) ^^^ ((mq_v m (y).toNatClampNeg)))) &&& 255))) 0)) else (if n = 4 then (0, (f_X7_goesOn (ms_v (ms_v m (upd (mq_v m) (x).toNatClampNeg (((((mq_v m (x).toNatClampNeg)) + ((mq_v m (y).toNatClampNeg)))) &&& 255))) (upd (mq_v (ms_v m (upd (mq_v m) (x).toNatClampNeg (((((mq_v m (x).toNatClampNeg)) + ((mq_v m (y).toNatClampNeg)))) &&& 255)))) 15 (((((mq_v m (x).toNatClampNeg)) + ((mq_v m (y).toNatClampNeg)))) >>> ((8 : Int32) &&& 31)))) 0)) else (if n = 5 then (if 0 ≤ ((((mq_v m (x).toNatClampNeg)) - ((mq_v m (y).toNatClampNeg)))) then (0, (f_X7_goesOn (ms_v (ms_v m (upd (mq_v m) (x).toNatClampNeg (((((mq_v m (x).toNatClampNeg)) - ((mq_v m (y).toNatClampNeg)))) &&& 255))) (upd (mq_v (ms_v m (upd (mq_v m) (x).toNatClampNeg (((((mq_v m (x).toNatClampNeg)) - ((mq_v m (y).toNatClampNeg)))) &&& 255)))) 15 1)) 0)) else (0, (f_X7_goesOn (ms_v (ms_v m (upd (mq_v m) (x).toNatClampNeg (((((mq_v m (x).toNatClampNeg)) - ((mq_v m (y).toNatClampNeg)))) &&& 255))) (upd (mq_v (ms_v m (upd (mq_v m) (x).toNatClampNeg (((((mq_v m (x).toNatClampNeg)) - ((mq_v m (y).toNatClampNeg)))) &&& 255)))) 15 0)) 0))) else (if n = 6 then (0, (f_X7_goesOn (ms_v (ms_v m (upd (mq_v m) (x).toNatClampNeg (((((mq_v m (y).toNatClampNeg)) >>> ((1 : Int32) &&& 31))) &&& 255))) (upd (mq_v (ms_v m (upd (mq_v m) (x).toNatClampNeg (((((mq_v m (y).toNatClampNeg)) >>> ((1 : Int32) &&& 31))) &&& 255)))) 15 (((mq_v m (y).toNatClampNeg)) &&& 1))) 0)) else (if n = 7 then (if 0 ≤ ((((mq_v m (y).toNatClampNeg)) - ((mq_v m (x).toNatClampNeg)))) then (0, (f_X7_goesOn (ms_v (ms_v m (upd (mq_v m) (x).toNatClampNeg (((((mq_v m (y).toNatClampNeg)) - ((mq_v m (x).toNatClampNeg)))) &&& 255))) (upd (mq_v (ms_v m (upd (mq_v m) (x).toNatClampNeg (((((mq_v m (y).toNatClampNeg)) - ((mq_v m (x).toNatClampNeg)))) &&& 255)))) 15 1)) 0)) else (0, (f_X7_goesOn (ms_v (ms_v m (upd (mq_v m) (x).toNatClampNeg (((((mq_v m (y).toNatClampNeg)) - ((mq_v m (x).toNatClampNeg)))) &&& 255))) (upd (mq_v (ms_v m (upd (mq_v m) (x).toNatClampNeg (((((mq_v m (y).toNatClampNeg)) - ((mq_v m (x).toNatClampNeg)))) &&& 255)))) 15 0)) 0))) else (if n ≤ 7 then (if n = 14 then (0, (f_X7_goesOn (ms_v (ms_v m (upd (mq_v m) (x).toNatClampNeg (((((mq_v m (y).toNatClampNeg)) <<< ((1 : Int32) &&& 31))) &&& 255))) (upd (mq_v (ms_v m (upd (mq_v m) (x).toNatClampNeg (((((mq_v m (y).toNatClampNeg)) <<< ((1 : Int32) &&& 31))) &&& 255)))) 15 (((mq_v m (y).toNatClampNeg)) >>> ((7 : Int32) &&& 31)))) 0)) else (0, (f_X7_goesOn (ms_v m (upd (mq_v m) (x).toNatClampNeg (((((mq_v m (y).toNatClampNeg)) <<< ((1 : Int32) &&& 31))) &&& 255))) 0))) else (if n = 14 then (0, (f_X7_goesOn (ms_v (ms_v m (upd (mq_v m) (x).toNatClampNeg (((((mq_v m (y).toNatClampNeg)) <<< ((1 : Int32) &&& 31))) &&& 255))) (upd (mq_v (ms_v m (upd (mq_v m) (x).toNatClampNeg (((((mq_v m (y).toNatClampNeg)) <<< ((1 : Int32) &&& 31))) &&& 255)))) 15 (((mq_v m (y).toNatClampNeg)) >>> ((7 : Int32) &&& 31)))) 0)) else (1, m))))))))))) := rfl
theorem Z_comb (u : BS) (n x z : Int32) : f_X1_combine u n x z = (if n = 0 then (0, (f_X1_putVariable u x z)) else (if n = 1 then (0, (f_X1_putVariable u x (((f_X1_variable u x)) ||| z))) else (if n = 2 then (0, (f_X1_putVariable u x (((f_X1_variable u x)) &&& z))) else (if n = 3 then (0, (f_X1_putVariable u x (((f_X1_variable u x)) ^^^ z))) else (if n = 4 then (if (((f_X1_variable u x)) + z) ≤ 255 then ((f_X1_putWithFlag u x (((f_X1_variable u x)) + z) 0).1, (f_X1_putWithFlag u x (((f_X1_variable u x)) + z) 0).2) else ((f_X1_putWithFlag u x (((f_X1_variable u x)) + z) 1).1, (f_X1_putWithFlag u x (((f_X1_variable u x)) + z) 1).2)) else (if n = 5 then (if ((f_X1_variable u x)) < z then ((f_X1_putWithFlag u x (((f_X1_variable u x)) - z) 0).1, (f_X1_putWithFlag u x (((f_X1_variable u x)) - z) 0).2) else ((f_X1_putWithFlag u x (((f_X1_variable u x)) - z) 1).1, (f_X1_putWithFlag u x (((f_X1_variable u x)) - z) 1).2)) else (if n = 6 then (if (z &&& 1) = 1 then ((f_X1_putWithFlag u x (z >>> ((1 : Int32) &&& 31)) 1).1, (f_X1_putWithFlag u x (z >>> ((1 : Int32) &&& 31)) 1).2) else ((f_X1_putWithFlag u x (z >>> ((1 : Int32) &&& 31)) 0).1, (f_X1_putWithFlag u x (z >>> ((1 : Int32) &&& 31)) 0).2)) else (if n = 7 then (if z < ((f_X1_variable u x)) then ((f_X1_putWithFlag u x (z - ((f_X1_variable u x))) 0).1, (f_X1_putWithFlag u x (z - ((f_X1_variable u x))) 0).2) else ((f_X1_putWithFlag u x (z - ((f_X1_variable u x))) 1).1, (f_X1_putWithFlag u x (z - ((f_X1_variable u x))) 1).2)) else (if n = 14 then (if z ≤ 127 then ((f_X1_putWithFlag u x (z <<< ((1 : Int32) &&& 31)) 0).1, (f_X1_putWithFlag u x (z <<< ((1 : Int32) &&& 31)) 0).2) else ((f_X1_putWithFlag u x (z <<< ((1 : Int32) &&& 31)) 1).1, (f_X1_putWithFlag u x (z <<< ((1 : Int32) &&& 31)) 1).2)) else (2, u)))))))))) := rfl
theorem EE_0 (m : MS) (x y : Int32) : f_X7_eight m x y 0 = (0, (f_X7_goesOn (ms_v m (upd (mq_v m) (x).toNatClampNeg (((mq_v m (y).toNatClampNeg)) &&& 255))) 0)) := (Z_eight m x y 0).trans (if_pos (by decide))
theorem EB_0 (u : BS) (x z : Int32) : f_X1_combine u 0 x z = (0, (f_X1_putVariable u x z)) := (Z_comb u 0 x z).trans (if_pos (by decide))
theorem EE_1 (m : MS) (x y : Int32) : f_X7_eight m x y 1 = (0, (f_X7_goesOn (ms_v m (upd (mq_v m) (x).toNatClampNeg (((((mq_v m (x).toNatClampNeg)) ||| ((mq_v m (y).toNatClampNeg)))) &&& 255))) 0)) := (Z_eight m x y 1).trans ((if_neg (by decide)).trans (if_pos (by decide)))
theorem EB_1 (u : BS) (x z : Int32) : f_X1_combine u 1 x z = (0, (f_X1_putVariable u x (((f_X1_variable u x)) ||| z))) := (Z_comb u 1 x z).trans ((if_neg (by decide)).trans (if_pos (by decide)))
theorem EE_2 (m : MS) (x y : Int32) : f_X7_eight m x y 2 = (0, (f_X7_goesOn (ms_v m (upd (mq_v m) (x).toNatClampNeg (((((mq_v m (x).toNatClampNeg)) &&& ((mq_v m (y).toNatClampNeg)))) &&& 255))) 0)) := (Z_eight m x y 2).trans ((if_neg (by decide)).trans ((if_neg (by decide)).trans (if_pos (by decide))))
theorem EB_2 (u : BS) (x z : Int32) : f_X1_combine u 2 x z = (0, (f_X1_putVariable u x (((f_X1_variable u x)) &&& z))) := (Z_comb u 2 x z).trans ((if_neg (by decide)).trans ((if_neg (by decide)).trans (if_pos (by decide))))
theorem EE_3 (m : MS) (x y : Int32) : f_X7_eight m x y 3 = (0, (f_X7_goesOn (ms_v m (upd (mq_v m) (x).toNatClampNeg (((((mq_v m (x).toNatClampNeg)) ^^^ ((mq_v m (y).toNatClampNeg)))) &&& 255))) 0)) := (Z_eight m x y 3).trans ((if_neg (by decide)).trans ((if_neg (by decide)).trans ((if_neg (by decide)).trans (if_pos (by decide)))))
theorem EB_3 (u : BS) (x z : Int32) : f_X1_combine u 3 x z = (0, (f_X1_putVariable u x (((f_X1_variable u x)) ^^^ z))) := (Z_comb u 3 x z).trans ((if_neg (by decide)).trans ((if_neg (by decide)).trans ((if_neg (by decide)).trans (if_pos (by decide)))))
theorem EE_4 (m : MS) (x y : Int32) : f_X7_eight m x y 4 = (0, (f_X7_goesOn (ms_v (ms_v m (upd (mq_v m) (x).toNatClampNeg (((((mq_v m (x).toNatClampNeg)) + ((mq_v m (y).toNatClampNeg)))) &&& 255))) (upd (mq_v (ms_v m (upd (mq_v m) (x).toNatClampNeg (((((mq_v m (x).toNatClampNeg)) + ((mq_v m (y).toNatClampNeg)))) &&& 255)))) 15 (((((mq_v m (x).toNatClampNeg)) + ((mq_v m (y).toNatClampNeg)))) >>> ((8 : Int32) &&& 31)))) 0)) := (Z_eight m x y 4).trans ((if_neg (by decide)).trans ((if_neg (by decide)).trans ((if_neg (by decide)).trans ((if_neg (by decide)).trans (if_pos (by decide))))))
theorem EB_4 (u : BS) (x z : Int32) : f_X1_combine u 4 x z = (if (((f_X1_variable u x)) + z) ≤ 255 then ((f_X1_putWithFlag u x (((f_X1_variable u x)) + z) 0).1, (f_X1_putWithFlag u x (((f_X1_variable u x)) + z) 0).2) else ((f_X1_putWithFlag u x (((f_X1_variable u x)) + z) 1).1, (f_X1_putWithFlag u x (((f_X1_variable u x)) + z) 1).2)) := (Z_comb u 4 x z).trans ((if_neg (by decide)).trans ((if_neg (by decide)).trans ((if_neg (by decide)).trans ((if_neg (by decide)).trans (if_pos (by decide))))))
theorem EE_5 (m : MS) (x y : Int32) : f_X7_eight m x y 5 = (if 0 ≤ ((((mq_v m (x).toNatClampNeg)) - ((mq_v m (y).toNatClampNeg)))) then (0, (f_X7_goesOn (ms_v (ms_v m (upd (mq_v m) (x).toNatClampNeg (((((mq_v m (x).toNatClampNeg)) - ((mq_v m (y).toNatClampNeg)))) &&& 255))) (upd (mq_v (ms_v m (upd (mq_v m) (x).toNatClampNeg (((((mq_v m (x).toNatClampNeg)) - ((mq_v m (y).toNatClampNeg)))) &&& 255)))) 15 1)) 0)) else (0, (f_X7_goesOn (ms_v (ms_v m (upd (mq_v m) (x).toNatClampNeg (((((mq_v m (x).toNatClampNeg)) - ((mq_v m (y).toNatClampNeg)))) &&& 255))) (upd (mq_v (ms_v m (upd (mq_v m) (x).toNatClampNeg (((((mq_v m (x).toNatClampNeg)) - ((mq_v m (y).toNatClampNeg)))) &&& 255)))) 15 0)) 0))) := (Z_eight m x y 5).trans ((if_neg (by decide)).trans ((if_neg (by decide)).trans ((if_neg (by decide)).trans ((if_neg (by decide)).trans ((if_neg (by decide)).trans (if_pos (by decide)))))))
theorem EB_5 (u : BS) (x z : Int32) : f_X1_combine u 5 x z = (if ((f_X1_variable u x)) < z then ((f_X1_putWithFlag u x (((f_X1_variable u x)) - z) 0).1, (f_X1_putWithFlag u x (((f_X1_variable u x)) - z) 0).2) else ((f_X1_putWithFlag u x (((f_X1_variable u x)) - z) 1).1, (f_X1_putWithFlag u x (((f_X1_variable u x)) - z) 1).2)) := (Z_comb u 5 x z).trans ((if_neg (by decide)).trans ((if_neg (by decide)).trans ((if_neg (by decide)).trans ((if_neg (by decide)).trans ((if_neg (by decide)).trans (if_pos (by decide)))))))
theorem EE_6 (m : MS) (x y : Int32) : f_X7_eight m x y 6 = (0, (f_X7_goesOn (ms_v (ms_v m (upd (mq_v m) (x).toNatClampNeg (((((mq_v m (y).toNatClampNeg)) >>> ((1 : Int32) &&& 31))) &&& 255))) (upd (mq_v (ms_v m (upd (mq_v m) (x).toNatClampNeg (((((mq_v m (y).toNatClampNeg)) >>> ((1 : Int32) &&& 31))) &&& 255)))) 15 (((mq_v m (y).toNatClampNeg)) &&& 1))) 0)) := (Z_eight m x y 6).trans ((if_neg (by decide)).trans ((if_neg (by decide)).trans ((if_neg (by decide)).trans ((if_neg (by decide)).trans ((if_neg (by decide)).trans ((if_neg (by decide)).trans (if_pos (by decide))))))))
theorem EB_6 (u : BS) (x z : Int32) : f_X1_combine u 6 x z = (if (z &&& 1) = 1 then ((f_X1_putWithFlag u x (z >>> ((1 : Int32) &&& 31)) 1).1, (f_X1_putWithFlag u x (z >>> ((1 : Int32) &&& 31)) 1).2) else ((f_X1_putWithFlag u x (z >>> ((1 : Int32) &&& 31)) 0).1, (f_X1_putWithFlag u x (z >>> ((1 : Int32) &&& 31)) 0).2)) := (Z_comb u 6 x z).trans ((if_neg (by decide)).trans ((if_neg (by decide)).trans ((if_neg (by decide)).trans ((if_neg (by decide)).trans ((if_neg (by decide)).trans ((if_neg (by decide)).trans (if_pos (by decide))))))))
theorem EE_7 (m : MS) (x y : Int32) : f_X7_eight m x y 7 = (if 0 ≤ ((((mq_v m (y).toNatClampNeg)) - ((mq_v m (x).toNatClampNeg)))) then (0, (f_X7_goesOn (ms_v (ms_v m (upd (mq_v m) (x).toNatClampNeg (((((mq_v m (y).toNatClampNeg)) - ((mq_v m (x).toNatClampNeg)))) &&& 255))) (upd (mq_v (ms_v m (upd (mq_v m) (x).toNatClampNeg (((((mq_v m (y).toNatClampNeg)) - ((mq_v m (x).toNatClampNeg)))) &&& 255)))) 15 1)) 0)) else (0, (f_X7_goesOn (ms_v (ms_v m (upd (mq_v m) (x).toNatClampNeg (((((mq_v m (y).toNatClampNeg)) - ((mq_v m (x).toNatClampNeg)))) &&& 255))) (upd (mq_v (ms_v m (upd (mq_v m) (x).toNatClampNeg (((((mq_v m (y).toNatClampNeg)) - ((mq_v m (x).toNatClampNeg)))) &&& 255)))) 15 0)) 0))) := (Z_eight m x y 7).trans ((if_neg (by decide)).trans ((if_neg (by decide)).trans ((if_neg (by decide)).trans ((if_neg (by decide)).trans ((if_neg (by decide)).trans ((if_neg (by decide)).trans ((if_neg (by decide)).trans (if_pos (by decide)))))))))
theorem EB_7 (u : BS) (x z : Int32) : f_X1_combine u 7 x z = (if z < ((f_X1_variable u x)) then ((f_X1_putWithFlag u x (z - ((f_X1_variable u x))) 0).1, (f_X1_putWithFlag u x (z - ((f_X1_variable u x))) 0).2) else ((f_X1_putWithFlag u x (z - ((f_X1_variable u x))) 1).1, (f_X1_putWithFlag u x (z - ((f_X1_variable u x))) 1).2)) := (Z_comb u 7 x z).trans ((if_neg (by decide)).trans ((if_neg (by decide)).trans ((if_neg (by decide)).trans ((if_neg (by decide)).trans ((if_neg (by decide)).trans ((if_neg (by decide)).trans ((if_neg (by decide)).trans (if_pos (by decide)))))))))
theorem EE_8 (m : MS) (x y : Int32) : f_X7_eight m x y 8 = (1, m) := (Z_eight m x y 8).trans ((if_neg (by decide)).trans ((if_neg (by decide)).trans ((if_neg (by decide)).trans ((if_neg (by decide)).trans ((if_neg (by decide)).trans ((if_neg (by decide)).trans ((if_neg (by decide)).trans ((if_neg (by decide)).trans ((if_neg (by decide)).trans (if_neg (by decide)))))))))))
theorem EB_8 (u : BS) (x z : Int32) : f_X1_combine u 8 x z = (2, u) := (Z_comb u 8 x z).trans ((if_neg (by decide)).trans ((if_neg (by decide)).trans ((if_neg (by decide)).trans ((if_neg (by decide)).trans ((if_neg (by decide)).trans ((if_neg (by decide)).trans ((if_neg (by decide)).trans ((if_neg (by decide)).trans (if_neg (by decide))))))))))
theorem EE_9 (m : MS) (x y : Int32) : f_X7_eight m x y 9 = (1, m) := (Z_eight m x y 9).trans ((if_neg (by decide)).trans ((if_neg (by decide)).trans ((if_neg (by decide)).trans ((if_neg (by decide)).trans ((if_neg (by decide)).trans ((if_neg (by decide)).trans ((if_neg (by decide)).trans ((if_neg (by decide)).trans ((if_neg (by decide)).trans (if_neg (by decide)))))))))))
theorem EB_9 (u : BS) (x z : Int32) : f_X1_combine u 9 x z = (2, u) := (Z_comb u 9 x z).trans ((if_neg (by decide)).trans ((if_neg (by decide)).trans ((if_neg (by decide)).trans ((if_neg (by decide)).trans ((if_neg (by decide)).trans ((if_neg (by decide)).trans ((if_neg (by decide)).trans ((if_neg (by decide)).trans (if_neg (by decide))))))))))
theorem EE_10 (m : MS) (x y : Int32) : f_X7_eight m x y 10 = (1, m) := (Z_eight m x y 10).trans ((if_neg (by decide)).trans ((if_neg (by decide)).trans ((if_neg (by decide)).trans ((if_neg (by decide)).trans ((if_neg (by decide)).trans ((if_neg (by decide)).trans ((if_neg (by decide)).trans ((if_neg (by decide)).trans ((if_neg (by decide)).trans (if_neg (by decide)))))))))))
theorem EB_10 (u : BS) (x z : Int32) : f_X1_combine u 10 x z = (2, u) := (Z_comb u 10 x z).trans ((if_neg (by decide)).trans ((if_neg (by decide)).trans ((if_neg (by decide)).trans ((if_neg (by decide)).trans ((if_neg (by decide)).trans ((if_neg (by decide)).trans ((if_neg (by decide)).trans ((if_neg (by decide)).trans (if_neg (by decide))))))))))
theorem EE_11 (m : MS) (x y : Int32) : f_X7_eight m x y 11 = (1, m) := (Z_eight m x y 11).trans ((if_neg (by decide)).trans ((if_neg (by decide)).trans ((if_neg (by decide)).trans ((if_neg (by decide)).trans ((if_neg (by decide)).trans ((if_neg (by decide)).trans ((if_neg (by decide)).trans ((if_neg (by decide)).trans ((if_neg (by decide)).trans (if_neg (by decide)))))))))))
theorem EB_11 (u : BS) (x z : Int32) : f_X1_combine u 11 x z = (2, u) := (Z_comb u 11 x z).trans ((if_neg (by decide)).trans ((if_neg (by decide)).trans ((if_neg (by decide)).trans ((if_neg (by decide)).trans ((if_neg (by decide)).trans ((if_neg (by decide)).trans ((if_neg (by decide)).trans ((if_neg (by decide)).trans (if_neg (by decide))))))))))
theorem EE_12 (m : MS) (x y : Int32) : f_X7_eight m x y 12 = (1, m) := (Z_eight m x y 12).trans ((if_neg (by decide)).trans ((if_neg (by decide)).trans ((if_neg (by decide)).trans ((if_neg (by decide)).trans ((if_neg (by decide)).trans ((if_neg (by decide)).trans ((if_neg (by decide)).trans ((if_neg (by decide)).trans ((if_neg (by decide)).trans (if_neg (by decide)))))))))))
theorem EB_12 (u : BS) (x z : Int32) : f_X1_combine u 12 x z = (2, u) := (Z_comb u 12 x z).trans ((if_neg (by decide)).trans ((if_neg (by decide)).trans ((if_neg (by decide)).trans ((if_neg (by decide)).trans ((if_neg (by decide)).trans ((if_neg (by decide)).trans ((if_neg (by decide)).trans ((if_neg (by decide)).trans (if_neg (by decide))))))))))
theorem EE_13 (m : MS) (x y : Int32) : f_X7_eight m x y 13 = (1, m) := (Z_eight m x y 13).trans ((if_neg (by decide)).trans ((if_neg (by decide)).trans ((if_neg (by decide)).trans ((if_neg (by decide)).trans ((if_neg (by decide)).trans ((if_neg (by decide)).trans ((if_neg (by decide)).trans ((if_neg (by decide)).trans ((if_neg (by decide)).trans (if_neg (by decide)))))))))))
theorem EB_13 (u : BS) (x z : Int32) : f_X1_combine u 13 x z = (2, u) := (Z_comb u 13 x z).trans ((if_neg (by decide)).trans ((if_neg (by decide)).trans ((if_neg (by decide)).trans ((if_neg (by decide)).trans ((if_neg (by decide)).trans ((if_neg (by decide)).trans ((if_neg (by decide)).trans ((if_neg (by decide)).trans (if_neg (by decide))))))))))
theorem EE_14 (m : MS) (x y : Int32) : f_X7_eight m x y 14 = (0, (f_X7_goesOn (ms_v (ms_v m (upd (mq_v m) (x).toNatClampNeg (((((mq_v m (y).toNatClampNeg)) <<< ((1 : Int32) &&& 31))) &&& 255))) (upd (mq_v (ms_v m (upd (mq_v m) (x).toNatClampNeg (((((mq_v m (y).toNatClampNeg)) <<< ((1 : Int32) &&& 31))) &&& 255)))) 15 (((mq_v m (y).toNatClampNeg)) >>> ((7 : Int32) &&& 31)))) 0)) := (Z_eight m x y 14).trans ((if_neg (by decide)).trans ((if_neg (by decide)).trans ((if_neg (by decide)).trans ((if_neg (by decide)).trans ((if_neg (by decide)).trans ((if_neg (by decide)).trans ((if_neg (by decide)).trans ((if_neg (by decide)).trans ((if_neg (by decide)).trans (if_pos (by decide)))))))))))
theorem EB_14 (u : BS) (x z : Int32) : f_X1_combine u 14 x z = (if z ≤ 127 then ((f_X1_putWithFlag u x (z <<< ((1 : Int32) &&& 31)) 0).1, (f_X1_putWithFlag u x (z <<< ((1 : Int32) &&& 31)) 0).2) else ((f_X1_putWithFlag u x (z <<< ((1 : Int32) &&& 31)) 1).1, (f_X1_putWithFlag u x (z <<< ((1 : Int32) &&& 31)) 1).2)) := (Z_comb u 14 x z).trans ((if_neg (by decide)).trans ((if_neg (by decide)).trans ((if_neg (by decide)).trans ((if_neg (by decide)).trans ((if_neg (by decide)).trans ((if_neg (by decide)).trans ((if_neg (by decide)).trans ((if_neg (by decide)).trans (if_pos (by decide))))))))))
theorem EE_15 (m : MS) (x y : Int32) : f_X7_eight m x y 15 = (1, m) := (Z_eight m x y 15).trans ((if_neg (by decide)).trans ((if_neg (by decide)).trans ((if_neg (by decide)).trans ((if_neg (by decide)).trans ((if_neg (by decide)).trans ((if_neg (by decide)).trans ((if_neg (by decide)).trans ((if_neg (by decide)).trans ((if_neg (by decide)).trans (if_neg (by decide)))))))))))
theorem EB_15 (u : BS) (x z : Int32) : f_X1_combine u 15 x z = (2, u) := (Z_comb u 15 x z).trans ((if_neg (by decide)).trans ((if_neg (by decide)).trans ((if_neg (by decide)).trans ((if_neg (by decide)).trans ((if_neg (by decide)).trans ((if_neg (by decide)).trans ((if_neg (by decide)).trans ((if_neg (by decide)).trans (if_neg (by decide))))))))))
theorem cf_4 {a b : Int32} (ha : rg 256 a) (hb : rg 256 b) : (a + b ≤ 255 → (a + b) >>> ((8 : Int32) &&& 31) = 0) ∧ (¬ a + b ≤ 255 → (a + b) >>> ((8 : Int32) &&& 31) = 1) := by
  obtain ⟨j, hj, rfl⟩ := ha
  obtain ⟨k, hk, rfl⟩ := hb
  rw [nI_add, pk_shrN (by omega) _ 8 rfl, show (255 : Int32) = nI 255 from rfl, nI_leI (by omega) (by omega)]
  refine ⟨fun q => ?_, fun q => ?_⟩
  · rw [show (j + k) / 2 ^ 8 = 0 by omega]; rfl
  · rw [show (j + k) / 2 ^ 8 = 1 by omega]; rfl
theorem cf_5 {a b : Int32} (ha : rg 256 a) (hb : rg 256 b) : a < b ↔ ¬ 0 ≤ a - b := by
  obtain ⟨j, hj, rfl⟩ := ha
  obtain ⟨k, hk, rfl⟩ := hb
  rw [nI_ltI (by omega) (by omega), Int32.le_iff_toInt_le, pk_sub_toInt (by omega) (by omega), show (0 : Int32).toInt = 0 from rfl]
  omega
theorem cf_14 {b : Int32} (hb : rg 256 b) : (b ≤ 127 → b >>> ((7 : Int32) &&& 31) = 0) ∧ (¬ b ≤ 127 → b >>> ((7 : Int32) &&& 31) = 1) := by
  obtain ⟨k, hk, rfl⟩ := hb
  rw [pk_shrN (by omega) _ 7 rfl, show (127 : Int32) = nI 127 from rfl, nI_leI (by omega) (by omega)]
  refine ⟨fun q => ?_, fun q => ?_⟩
  · rw [show k / 2 ^ 7 = 0 by omega]; rfl
  · rw [show k / 2 ^ 7 = 1 by omega]; rfl
theorem s_eight {u : BS} {x y n : Int32} (th : Int32) (h : Inv u) (hx : rg 16 x) (hy : rg 16 y) (hn : rg 16 n) : LR th u (f_X1_combine (up u) n x (f_X1_variable (up u) y)) (f_X7_eight (aM th u) x y n) := by
  have ha := r_var h x
  have hb := r_var h y
  have no : ∀ n : Int32, f_X1_combine (up u) n x (f_X1_variable (up u) y) = (2, up u) → f_X7_eight (aM th u) x y n = (1, aM th u) → LR th u (f_X1_combine (up u) n x (f_X1_variable (up u) y)) (f_X7_eight (aM th u) x y n) := fun n a b => LRu a b
  have ii : ∀ z, Inv (f_X1_putVariable (up u) x z) := fun z => i_putV (i_up h) _ _
  have i2 : ∀ z f, Inv (f_X1_putVariable (f_X1_putVariable (up u) x z) 15 f) := fun z f => i_putV (ii z) _ _
  have c0 : LR th u (f_X1_combine (up u) 0 x (f_X1_variable (up u) y)) (f_X7_eight (aM th u) x y 0) := by
    refine LR0 (EB_0 _ _ _) ?_ (ii _)
    rw [EE_0, s_var th hy, s_putV2 th hx, go0]; rfl
  have c1 : LR th u (f_X1_combine (up u) 1 x (f_X1_variable (up u) y)) (f_X7_eight (aM th u) x y 1) := by
    refine LR0 (EB_1 _ _ _) ?_ (ii _)
    rw [EE_1, s_var th hx, s_var th hy, s_putV2 th hx, go0]; rfl
  have c2 : LR th u (f_X1_combine (up u) 2 x (f_X1_variable (up u) y)) (f_X7_eight (aM th u) x y 2) := by
    refine LR0 (EB_2 _ _ _) ?_ (ii _)
    rw [EE_2, s_var th hx, s_var th hy, s_putV2 th hx, go0]; rfl
  have c3 : LR th u (f_X1_combine (up u) 3 x (f_X1_variable (up u) y)) (f_X7_eight (aM th u) x y 3) := by
    refine LR0 (EB_3 _ _ _) ?_ (ii _)
    rw [EE_3, s_var th hx, s_var th hy, s_putV2 th hx, go0]; rfl
  have c4 : LR th u (f_X1_combine (up u) 4 x (f_X1_variable (up u) y)) (f_X7_eight (aM th u) x y 4) := by
    rw [EB_4, EE_4, v_up, v_up, s_var th hx, s_var th hy, pf0, pf1]
    by_cases q : f_X1_variable u x + f_X1_variable u y ≤ 255
    · rw [if_pos q, (cf_4 ha hb).1 q, s_flag th hx r0_256]
      exact LR0 rfl rfl (i2 _ _)
    · rw [if_neg q, (cf_4 ha hb).2 q, s_flag th hx r1_256]
      exact LR0 rfl rfl (i2 _ _)
  have c5 : LR th u (f_X1_combine (up u) 5 x (f_X1_variable (up u) y)) (f_X7_eight (aM th u) x y 5) := by
    rw [EB_5, EE_5, v_up, v_up, s_var th hx, s_var th hy, pf0, pf1]
    by_cases q : f_X1_variable u x < f_X1_variable u y
    · rw [if_pos q, if_neg ((cf_5 ha hb).mp q), s_flag th hx r0_256]
      exact LR0 rfl rfl (i2 _ _)
    · rw [if_neg q, if_pos (Classical.not_not.mp (fun z => q ((cf_5 ha hb).mpr z))), s_flag th hx r1_256]
      exact LR0 rfl rfl (i2 _ _)
  have c7 : LR th u (f_X1_combine (up u) 7 x (f_X1_variable (up u) y)) (f_X7_eight (aM th u) x y 7) := by
    rw [EB_7, EE_7, v_up, v_up, s_var th hx, s_var th hy, pf0, pf1]
    by_cases q : f_X1_variable u y < f_X1_variable u x
    · rw [if_pos q, if_neg ((cf_5 hb ha).mp q), s_flag th hx r0_256]
      exact LR0 rfl rfl (i2 _ _)
    · rw [if_neg q, if_pos (Classical.not_not.mp (fun z => q ((cf_5 hb ha).mpr z))), s_flag th hx r1_256]
      exact LR0 rfl rfl (i2 _ _)
  have c6 : LR th u (f_X1_combine (up u) 6 x (f_X1_variable (up u) y)) (f_X7_eight (aM th u) x y 6) := by
    rw [EB_6, EE_6, v_up, s_var th hy, pf0, pf1]
    rcases ar_2 (rg_1 (f_X1_variable u y)) with q | q
    · rw [q, if_neg (by decide), s_flag th hx r0_256]
      exact LR0 rfl rfl (i2 _ _)
    · rw [q, if_pos rfl, s_flag th hx r1_256]
      exact LR0 rfl rfl (i2 _ _)
  have c14 : LR th u (f_X1_combine (up u) 14 x (f_X1_variable (up u) y)) (f_X7_eight (aM th u) x y 14) := by
    rw [EB_14, EE_14, v_up, s_var th hy, pf0, pf1]
    by_cases q : f_X1_variable u y ≤ 127
    · rw [if_pos q, (cf_14 hb).1 q, s_flag th hx r0_256]
      exact LR0 rfl rfl (i2 _ _)
    · rw [if_neg q, (cf_14 hb).2 q, s_flag th hx r1_256]
      exact LR0 rfl rfl (i2 _ _)
  exact nib hn (P := fun n => LR th u (f_X1_combine (up u) n x (f_X1_variable (up u) y)) (f_X7_eight (aM th u) x y n)) c0 c1 c2 c3 c4 c5 c6 c7 (no 8 (EB_8 _ _ _) (EE_8 _ _ _)) (no 9 (EB_9 _ _ _) (EE_9 _ _ _)) (no 10 (EB_10 _ _ _) (EE_10 _ _ _)) (no 11 (EB_11 _ _ _) (EE_11 _ _ _)) (no 12 (EB_12 _ _ _) (EE_12 _ _ _)) (no 13 (EB_13 _ _ _) (EE_13 _ _ _)) c14 (no 15 (EB_15 _ _ _) (EE_15 _ _ _))
theorem i22 {r : Int32} (hr : rg 16 r) : vp_in r 22 := in_16 hr (by decide) (by decide)
theorem o_eight {m : MS} {x y n : Int32} (hx : rg 16 x) (hy : rg 16 y) : ok_X7_eight m x y n := by
  have a1 := i22 hx
  have a2 := i22 hy
  unfold ok_X7_eight
  simp only [a1, a2, ite_self, and_self]
theorem s_least (th : Int32) (u : BS) : ∀ (f : Nat) (a : Int32), f_X7_leastKey_L f (aM th u) a = f_X0_least_L f u a
  | 0, _ => rfl
  | f + 1, a => by
    show (if 16 ≤ a then (-1) else if (bq_keys u (a).toNatClampNeg) = 0 then f_X7_leastKey_L f (aM th u) (a + Int32.ofInt 1) else a) = _
    rw [s_least th u f]; rfl
theorem up_least (u : BS) (z : Int32) : ∀ (f : Nat) (a : Int32), f_X0_least_L f (bs_pc u z) a = f_X0_least_L f u a
  | 0, _ => rfl
  | f + 1, a => by
    show (if 16 ≤ a then (-1) else if (bq_keys u (a).toNatClampNeg) = 0 then f_X0_least_L f (bs_pc u z) (a + Int32.ofInt 1) else a) = _
    rw [up_least u z f]; rfl
theorem o_least (u : BS) (th : Int32) : ∀ d f j : Nat, j + d = 16 → d < f → ok_X0_least_L f u (nI j) ∧ ok_X7_leastKey_L f (aM th u) (nI j) ∧ (f_X0_least_L f u (nI j) = -1 ∨ rg 16 (f_X0_least_L f u (nI j)))
  | 0, f + 1, j, hj, _ => by
    have e : 16 ≤ nI j := (nI_leI (a := 16) (b := j) (by omega) (by omega)).mpr (by omega)
    refine ⟨?_, ?_, Or.inl (if_pos e)⟩
    · unfold ok_X0_least_L; rw [if_pos e]; exact trivial
    · unfold ok_X7_leastKey_L; rw [if_pos e]; exact trivial
  | d + 1, f + 1, j, hj, hf => by
    have e : ¬ 16 ≤ nI j := fun q => absurd ((nI_leI (a := 16) (b := j) (by omega) (by omega)).mp q) (by omega)
    obtain ⟨y1, y2, y3⟩ := o_least u th d f (j + 1) (by omega) (by omega)
    have hin : vp_in (nI j) 16 := vp_in_nI (by omega) (by omega)
    by_cases q : bq_keys u (nI j).toNatClampNeg = 0
    · have e2 : f_X0_least_L (f + 1) u (nI j) = f_X0_least_L f u (nI (j + 1)) := by
        refine (if_neg e).trans ((if_pos q).trans ?_)
        show f_X0_least_L f u (nI j + Int32.ofInt 1) = _
        rw [nI_oi]
      rw [e2]
      refine ⟨?_, ?_, y3⟩
      · unfold ok_X0_least_L; rw [if_neg e, if_pos q]
        refine ⟨hin, ?_⟩
        show ok_X0_least_L f u (nI j + Int32.ofInt 1)
        rw [nI_oi]; exact y1
      · unfold ok_X7_leastKey_L; rw [if_neg e, if_pos (show mq_down (aM th u) (nI j).toNatClampNeg = 0 from q)]
        refine ⟨hin, ?_⟩
        show ok_X7_leastKey_L f (aM th u) (nI j + Int32.ofInt 1)
        rw [nI_oi]; exact y2
    · have e2 : f_X0_least_L (f + 1) u (nI j) = nI j := (if_neg e).trans (if_neg q)
      rw [e2]
      refine ⟨?_, ?_, Or.inr ⟨j, by omega, rfl⟩⟩
      · unfold ok_X0_least_L; rw [if_neg e, if_neg q]; exact ⟨hin, trivial⟩
      · unfold ok_X7_leastKey_L; rw [if_neg e, if_neg (show ¬ mq_down (aM th u) (nI j).toNatClampNeg = 0 from q)]; exact ⟨hin, trivial⟩
theorem s_rows1 (th z : Int32) (x : Nat) (hx : x < 16) : ∀ (d f1 f2 j : Nat) (w : BS), j + d = x + 1 → d < f1 → d < f2 → Inv w → ∃ V : BS, bq_pc V = bq_pc w ∧ Inv V ∧ f_X7_rows_L f2 (aM th w) (nI x) 1 (nI j) = aM th V ∧ f_X1_saveVariables_L f1 (bs_pc w z) (nI x) (nI j) = bs_pc V z ∧ ok_X7_rows_L f2 (aM th w) (nI x) 1 (nI j) ∧ ok_X1_saveVariables_L f1 (bs_pc w z) (nI x) (nI j)
  | 0, f1 + 1, f2 + 1, j, w, hj, _, _, h => by
    have e : nI x < nI j := nI_lt (by omega) (by omega)
    refine ⟨f_X1_putIndex w ((bq_index w + nI x) + 1), rfl, i_putI h _, ?_, if_pos e, ?_, ?_⟩
    · exact (if_pos e).trans (M_index th w _)
    · unfold ok_X7_rows_L; rw [if_pos e]; exact trivial
    · unfold ok_X1_saveVariables_L; rw [if_pos e]; exact trivial
  | d + 1, f1 + 1, f2 + 1, j, w, hj, h1, h2, h => by
    have e : ¬ nI x < nI j := nI_nlt (by omega) (by omega)
    have hr : rg 16 (nI j) := ⟨j, by omega, rfl⟩
    obtain ⟨V, v1, v2, v3, v4, v5, v6⟩ := s_rows1 th z x hx d f1 f2 (j + 1) (f_X2_write w (bq_index w + nI j) (f_X1_variable w (nI j))) (by omega) (by omega) (by omega) (i_write h _ _)
    have em : f_X7_store (aM th w) (mq_v (aM th w) 16 + nI j) (mq_v (aM th w) (nI j).toNatClampNeg) = aM th (f_X2_write w (bq_index w + nI j) (f_X1_variable w (nI j))) := by
      rw [s_var th hr, s_store, m_index]
    refine ⟨V, v1, v2, ?_, ?_, ?_, ?_⟩
    · refine (if_neg e).trans ((if_neg (by decide)).trans ?_)
      show f_X7_rows_L f2 (f_X7_store (aM th w) (mq_v (aM th w) 16 + nI j) (mq_v (aM th w) (nI j).toNatClampNeg)) (nI x) 1 (nI j + Int32.ofInt 1) = _
      rw [em, nI_oi]; exact v3
    · refine (if_neg e).trans ?_
      show f_X1_saveVariables_L f1 (bs_pc (f_X2_write w (bq_index w + nI j) (f_X1_variable w (nI j))) z) (nI x) (nI j + Int32.ofInt 1) = _
      rw [nI_oi]; exact v4
    · unfold ok_X7_rows_L; rw [if_neg e, if_neg (by decide)]
      refine ⟨i22 hr, ?_⟩
      show ok_X7_rows_L f2 (f_X7_store (aM th w) (mq_v (aM th w) 16 + nI j) (mq_v (aM th w) (nI j).toNatClampNeg)) (nI x) 1 (nI j + Int32.ofInt 1)
      rw [em, nI_oi]; exact v5
    · unfold ok_X1_saveVariables_L; rw [if_neg e]
      show ok_X1_saveVariables_L f1 (bs_pc (f_X2_write w (bq_index w + nI j) (f_X1_variable w (nI j))) z) (nI x) (nI j + Int32.ofInt 1)
      rw [nI_oi]; exact v6
theorem s_rows0 (th z : Int32) (x : Nat) (hx : x < 16) : ∀ (d f1 f2 j : Nat) (w : BS), j + d = x + 1 → d < f1 → d < f2 → Inv w → ∃ V : BS, bq_pc V = bq_pc w ∧ Inv V ∧ f_X7_rows_L f2 (aM th w) (nI x) 0 (nI j) = aM th V ∧ f_X1_loadVariables_L f1 (bs_pc w z) (nI x) (nI j) = bs_pc V z ∧ ok_X7_rows_L f2 (aM th w) (nI x) 0 (nI j) ∧ ok_X1_loadVariables_L f1 (bs_pc w z) (nI x) (nI j)
  | 0, f1 + 1, f2 + 1, j, w, hj, _, _, h => by
    have e : nI x < nI j := nI_lt (by omega) (by omega)
    refine ⟨f_X1_putIndex w ((bq_index w + nI x) + 1), rfl, i_putI h _, ?_, if_pos e, ?_, ?_⟩
    · exact (if_pos e).trans (M_index th w _)
    · unfold ok_X7_rows_L; rw [if_pos e]; exact trivial
    · unfold ok_X1_loadVariables_L; rw [if_pos e]; exact trivial
  | d + 1, f1 + 1, f2 + 1, j, w, hj, h1, h2, h => by
    have e : ¬ nI x < nI j := nI_nlt (by omega) (by omega)
    have hr : rg 16 (nI j) := ⟨j, by omega, rfl⟩
    obtain ⟨V, v1, v2, v3, v4, v5, v6⟩ := s_rows0 th z x hx d f1 f2 (j + 1) (f_X1_putVariable w (nI j) (f_X2_read w (bq_index w + nI j))) (by omega) (by omega) (by omega) (i_putV h _ _)
    have em : ms_v (aM th w) (upd (mq_v (aM th w)) (nI j).toNatClampNeg (f_X7_byteAt (aM th w) (mq_v (aM th w) 16 + nI j))) = aM th (f_X1_putVariable w (nI j) (f_X2_read w (bq_index w + nI j))) := by
      rw [s_byteAt, m_index, s_putV th hr (r_read h _)]
    refine ⟨V, v1, v2, ?_, ?_, ?_, ?_⟩
    · refine (if_neg e).trans ((if_pos rfl).trans ?_)
      show f_X7_rows_L f2 (ms_v (aM th w) (upd (mq_v (aM th w)) (nI j).toNatClampNeg (f_X7_byteAt (aM th w) (mq_v (aM th w) 16 + nI j)))) (nI x) 0 (nI j + Int32.ofInt 1) = _
      rw [em, nI_oi]; exact v3
    · refine (if_neg e).trans ?_
      show f_X1_loadVariables_L f1 (bs_pc (f_X1_putVariable w (nI j) (f_X2_read w (bq_index w + nI j))) z) (nI x) (nI j + Int32.ofInt 1) = _
      rw [nI_oi]; exact v4
    · unfold ok_X7_rows_L; rw [if_neg e, if_pos rfl]
      refine ⟨i22 hr, ?_⟩
      show ok_X7_rows_L f2 (ms_v (aM th w) (upd (mq_v (aM th w)) (nI j).toNatClampNeg (f_X7_byteAt (aM th w) (mq_v (aM th w) 16 + nI j)))) (nI x) 0 (nI j + Int32.ofInt 1)
      rw [em, nI_oi]; exact v5
    · unfold ok_X1_loadVariables_L; rw [if_neg e]
      show ok_X1_loadVariables_L f1 (bs_pc (f_X1_putVariable w (nI j) (f_X2_read w (bq_index w + nI j))) z) (nI x) (nI j + Int32.ofInt 1)
      rw [nI_oi]; exact v6
theorem s_clear (th z p : Int32) : ∀ (d f1 f2 j : Nat) (w : BS), j + d = 256 → d < f1 → d < f2 → Inv w → ∃ V : BS, bq_pc V = bq_pc w ∧ Inv V ∧ f_X7_zero_L f2 (aM th w) p (nI (1792 + j)) = (0, f_X7_goesOn (aM th V) 0) ∧ f_X1_clear_L f1 (bs_pc w z) (nI j) = bs_pc V z ∧ ok_X7_zero_L f2 (aM th w) p (nI (1792 + j)) ∧ ok_X1_clear_L f1 (bs_pc w z) (nI j)
  | 0, f1 + 1, f2 + 1, j, w, hj, _, _, h => by
    have e : 256 ≤ nI j := (nI_leI (a := 256) (b := j) (by omega) (by omega)).mpr (by omega)
    have e2 : 2048 ≤ nI (1792 + j) := (nI_leI (a := 2048) (b := 1792 + j) (by omega) (by omega)).mpr (by omega)
    refine ⟨w, rfl, h, if_pos e2, if_pos e, ?_, ?_⟩
    · unfold ok_X7_zero_L; rw [if_pos e2]; exact trivial
    · unfold ok_X1_clear_L; rw [if_pos e]; exact trivial
  | d + 1, f1 + 1, f2 + 1, j, w, hj, h1, h2, h => by
    have e : ¬ 256 ≤ nI j := fun q => absurd ((nI_leI (a := 256) (b := j) (by omega) (by omega)).mp q) (by omega)
    have e2 : ¬ 2048 ≤ nI (1792 + j) := fun q => absurd ((nI_leI (a := 2048) (b := 1792 + j) (by omega) (by omega)).mp q) (by omega)
    have ea : (1792 : Int32) + nI j = nI (1792 + j) := nI_add 1792 j
    have ew : f_X2_write w (nI (1792 + j)) 0 = bs_mem w (upd (bq_mem w) (nI (1792 + j)).toNatClampNeg 0) := by
      unfold f_X2_write
      rw [id_and (N := 2048) 11 ⟨1792 + j, by omega, rfl⟩ (by decide) (by decide) rfl]; rfl
    obtain ⟨V, v1, v2, v3, v4, v5, v6⟩ := s_clear th z p d f1 f2 (j + 1) (f_X2_write w (nI (1792 + j)) 0) (by omega) (by omega) (by omega) (i_write h _ _)
    refine ⟨V, v1, v2, ?_, ?_, ?_, ?_⟩
    · refine (if_neg e2).trans ?_
      show f_X7_zero_L f2 (aM th (bs_mem w (upd (bq_mem w) (nI (1792 + j)).toNatClampNeg 0))) p (nI (1792 + j) + Int32.ofInt 1) = _
      rw [← ew, nI_oi]; exact v3
    · refine (if_neg e).trans ?_
      show f_X1_clear_L f1 (bs_pc (f_X2_write w ((1792 : Int32) + nI j) 0) z) (nI j + Int32.ofInt 1) = _
      rw [ea, nI_oi]; exact v4
    · unfold ok_X7_zero_L; rw [if_neg e2]
      refine ⟨vp_in_nI (by omega) (by omega), ?_⟩
      show ok_X7_zero_L f2 (aM th (bs_mem w (upd (bq_mem w) (nI (1792 + j)).toNatClampNeg 0))) p (nI (1792 + j) + Int32.ofInt 1)
      rw [← ew, nI_oi]; exact v5
    · unfold ok_X1_clear_L; rw [if_neg e]
      show ok_X1_clear_L f1 (bs_pc (f_X2_write w ((1792 : Int32) + nI j) 0) z) (nI j + Int32.ofInt 1)
      rw [ea, nI_oi]; exact v6
