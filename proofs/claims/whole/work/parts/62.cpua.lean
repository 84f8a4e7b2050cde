theorem nib {n : Int32} (hn : rg 16 n) {P : Int32 → Prop} (h0 : P 0) (h1 : P 1) (h2 : P 2) (h3 : P 3) (h4 : P 4) (h5 : P 5) (h6 : P 6) (h7 : P 7) (h8 : P 8) (h9 : P 9) (h10 : P 10) (h11 : P 11) (h12 : P 12) (h13 : P 13) (h14 : P 14) (h15 : P 15) : P n := by
  obtain ⟨k, hk, rfl⟩ := hn
  rcases (show k = 0 ∨ k = 1 ∨ k = 2 ∨ k = 3 ∨ k = 4 ∨ k = 5 ∨ k = 6 ∨ k = 7 ∨ k = 8 ∨ k = 9 ∨ k = 10 ∨ k = 11 ∨ k = 12 ∨ k = 13 ∨ k = 14 ∨ k = 15 by omega) with rfl | rfl | rfl | rfl | rfl | rfl | rfl | rfl | rfl | rfl | rfl | rfl | rfl | rfl | rfl | rfl
  · exact h0
  · exact h1
  · exact h2
  · exact h3
  · exact h4
  · exact h5
  · exact h6
  · exact h7
  · exact h8
  · exact h9
  · exact h10
  · exact h11
  · exact h12
  · exact h13
  · exact h14
  · exact h15
theorem id_and {N : Nat} {z m : Int32} (k : Nat) (hz : rg N z) (hN : N ≤ 2 ^ k) (hk : k ≤ 30) (hm : m.toBitVec.toNat = 2 ^ k - 1) : z &&& m = z := by
  obtain ⟨n, h1, rfl⟩ := hz
  have : 2 ^ k ≤ 2 ^ 30 := Nat.pow_le_pow_right (by decide) hk
  rw [pk_andN (by omega) k hm, Nat.mod_eq_of_lt (by omega)]
theorem id_15 {z : Int32} (hz : rg 16 z) : z &&& 15 = z := id_and 4 hz (by decide) (by decide) rfl
theorem id_255 {z : Int32} (hz : rg 256 z) : z &&& 255 = z := id_and 8 hz (by decide) (by decide) rfl
theorem id_4095 {z : Int32} (hz : rg 4096 z) : z &&& 4095 = z := id_and 12 hz (by decide) (by decide) rfl
theorem id_65535 {z : Int32} (hz : rg 65536 z) : z &&& 65535 = z := id_and 16 hz (by decide) (by decide) rfl
theorem s_byteAt (th : Int32) (u : BS) (a : Int32) : f_X7_byteAt (aM th u) a = f_X2_read u a := rfl
theorem s_store (th : Int32) (u : BS) (a b : Int32) : f_X7_store (aM th u) a b = aM th (f_X2_write u a b) := rfl
theorem s_reg {u : BS} (th : Int32) {r : Int32} (hr : rg 16 r) : mq_s (aM th u) r.toNatClampNeg = f_X4_register u r := by
  obtain ⟨h1, h2⟩ := ix_15 hr
  unfold f_X4_register
  rw [h1, m_regs h2]
theorem s_put {u : BS} (th : Int32) {r z : Int32} (hr : rg 16 r) (hz : rg 65536 z) : ms_s (aM th u) (upd (mq_s (aM th u)) r.toNatClampNeg z) = aM th (f_X4_putRegister u r z) := by
  obtain ⟨h1, h2⟩ := ix_15 hr
  rw [M_regs h2]
  show _ = aM th (bs_regs u (upd (bq_regs u) ((r &&& 15)).toNatClampNeg (z &&& 65535)))
  rw [h1, id_65535 hz]
theorem s_put2 {u : BS} (th : Int32) {r z : Int32} (hr : rg 16 r) : ms_s (aM th u) (upd (mq_s (aM th u)) r.toNatClampNeg (z &&& 65535)) = aM th (f_X4_putRegister u r z) := by
  obtain ⟨h1, h2⟩ := ix_15 hr
  rw [M_regs h2]
  show _ = aM th (bs_regs u (upd (bq_regs u) ((r &&& 15)).toNatClampNeg (z &&& 65535)))
  rw [h1]
theorem r_read {u : BS} (h : Inv u) (a : Int32) : rg 256 (f_X2_read u a) := r_mem h (ix_and 11 a (by decide) rfl)
theorem r_reg {u : BS} (h : Inv u) (r : Int32) : rg 65536 (f_X4_register u r) := r_regs h (ix_and 4 r (by decide) rfl)
theorem r_at {u : BS} (h : Inv u) (r : Int32) : rg 256 (f_X4_at u r) := r_read h _
theorem i_write {u : BS} (h : Inv u) (a z : Int32) : Inv (f_X2_write u a z) := i_mem h (rg_255 z)
theorem i_put {u : BS} (h : Inv u) (r z : Int32) : Inv (f_X4_putRegister u r z) := i_regs h (rg_65535 z)
theorem i_grow {u : BS} (h : Inv u) (r z : Int32) : Inv (f_X4_grow u r z) := i_put h _ _
theorem i_putAt {u : BS} (h : Inv u) (r z : Int32) : Inv (f_X4_putAt u r z) := i_write h _ _
theorem i_take {u : BS} (h : Inv u) (r : Int32) : Inv (f_X4_take u r).2 := i_regs h (rg_65535 _)
theorem r_take {u : BS} (h : Inv u) (r : Int32) : rg 256 (f_X4_take u r).1 := r_read (i_take h r) _
theorem o_grow {u : BS} {r z : Int32} (th : Int32) (hr : rg 16 r) : ok_X7_grow (aM th u) r z := ⟨in_16 hr (by decide) (by decide), in_16 hr (by decide) (by decide), trivial⟩
theorem s_grow {u : BS} {r : Int32} (th : Int32) (hr : rg 16 r) (z : Int32) : f_X7_grow (aM th u) r z = aM th (f_X4_grow u r z) := by
  show ms_s (aM th u) (upd (mq_s (aM th u)) r.toNatClampNeg ((mq_s (aM th u) r.toNatClampNeg + z) &&& 65535)) = _
  rw [s_put2 th hr, s_reg th hr]; rfl
theorem o_m {u : BS} {r : Int32} (th : Int32) (hr : rg 16 r) : ok_X7_m (aM th u) r := ⟨in_16 hr (by decide) (by decide), trivial⟩
theorem s_m {u : BS} {r : Int32} (th : Int32) (hr : rg 16 r) : f_X7_m (aM th u) r = f_X4_at u r := by
  show f_X7_byteAt (aM th u) (mq_s (aM th u) r.toNatClampNeg) = _
  rw [s_reg th hr]; rfl
theorem o_next {u : BS} (th : Int32) (h : Inv u) : ok_X7_next (aM th u) := ⟨o_m th (r_p h), o_grow th (r_p h), trivial⟩
theorem s_take {u : BS} {r : Int32} : f_X4_take u r = (f_X4_at u r, f_X4_grow u r 1) := rfl
theorem s_next {u : BS} (th : Int32) (h : Inv u) : f_X7_next (aM th u) = ((f_X4_take u (bq_p u)).1, aM th (f_X4_take u (bq_p u)).2) := by
  show (f_X7_m (aM th u) (bq_p u), f_X7_grow (aM th u) (bq_p u) 1) = _
  rw [s_m th (r_p h), s_grow th (r_p h), s_take]
theorem o_low {u : BS} {r z : Int32} (th : Int32) (hr : rg 16 r) : ok_X7_low (aM th u) r z := ⟨in_16 hr (by decide) (by decide), in_16 hr (by decide) (by decide), trivial⟩
theorem s_low {u : BS} {r z : Int32} (th : Int32) (h : Inv u) (hr : rg 16 r) (hz : rg 256 z) : f_X7_low (aM th u) r z = aM th (f_X4_putRegister u r ((f_X4_register u r &&& 65280) + z)) := by
  show ms_s (aM th u) (upd (mq_s (aM th u)) r.toNatClampNeg ((mq_s (aM th u) r.toNatClampNeg &&& 65280) ||| z)) = _
  rw [s_reg th hr, ar_low (r_reg h r) hz, s_put2 th hr]
theorem c_64 (z : Int32) : z < 64 ↔ z ≤ 63 := by
  rw [Int32.lt_iff_toInt_lt, Int32.le_iff_toInt_le, show (64 : Int32).toInt = 64 from rfl, show (63 : Int32).toInt = 63 from rfl]
  omega
theorem c_192 (z : Int32) : 192 ≤ z ↔ 191 < z := by
  rw [Int32.lt_iff_toInt_lt, Int32.le_iff_toInt_le, show (192 : Int32).toInt = 192 from rfl, show (191 : Int32).toInt = 191 from rfl]
  omega
theorem s_light (th : Int32) (u : BS) : f_X7_isLight (aM th u) = f_X3_flag u := by
  unfold f_X7_isLight f_X3_flag
  simp only [c_64, c_192, m_on, m_line]
theorem v_flag (u : BS) : f_X3_flag u = 0 ∨ f_X3_flag u = 1 := by
  unfold f_X3_flag
  split
  · exact Or.inl rfl
  · split
    · split
      · exact Or.inl rfl
      · split
        · exact Or.inl rfl
        · exact Or.inr rfl
    · split
      · exact Or.inr rfl
      · split
        · exact Or.inl rfl
        · split
          · exact Or.inl rfl
          · exact Or.inr rfl
theorem s_asked {u : BS} (th : Int32) (h : Inv u) : mq_down (aM th u) (mq_latch (aM th u)).toNatClampNeg = f_X0_askedIsDown u ∧ rg 2 (f_X0_askedIsDown u) := by
  obtain ⟨h1, h2⟩ := ix_15 (r_asked h)
  have e : f_X0_askedIsDown u = bq_keys u (bq_asked u).toNatClampNeg := by
    unfold f_X0_askedIsDown
    rw [h1, ar_nar (r_keys h h2)]
  rw [e]
  exact ⟨rfl, r_keys h h2⟩
theorem o_isSo {u : BS} {n : Int32} (th : Int32) (h : Inv u) : ok_X7_isSo (aM th u) n := by
  unfold ok_X7_isSo
  have h1 : vp_in (mq_latch (aM th u)) 16 := in_16 (r_asked h) (by decide) (by decide)
  simp only [ite_self, h1, and_self]
theorem t_isSo2 (th : Int32) (u : BS) : f_X7_isSo (aM th u) 2 = f_X4_holds u 2 := rfl
theorem t_isSo9 (th : Int32) (u : BS) : f_X7_isSo (aM th u) 9 = f_X4_holds u 9 := rfl
