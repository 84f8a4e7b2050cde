theorem fl1 (m : MS) (k : Int32) : f_X7_fails m 1 k = (1, ms_thrown m k) := rfl
theorem fl0 (m : MS) (k : Int32) : f_X7_fails m 0 k = (0, ms_thrown m 0) := rfl
theorem nf1 (m : MS) (k : Int32) : ¬ (f_X7_fails m 1 k).1 = 0 := (show ¬ (1 : Int32) = 0 by decide)
theorem zf0 (m : MS) (k : Int32) : (f_X7_fails m 0 k).1 = 0 := rfl
theorem kc_no : kc none = 0 := rfl
theorem out_in {m : MS} {p n : Int32} (h1 : ¬ p < 0) (h2 : p < n) : f_X7_out m p n = 0 := (if_neg h1).trans (if_pos h2)
theorem out_ng {m : MS} {p n : Int32} (h1 : p < 0) : f_X7_out m p n = 1 := if_pos h1
theorem out_ge {m : MS} {p n : Int32} (h2 : ¬ p < n) : f_X7_out m p n = 1 := by
  by_cases h1 : p < 0
  · exact if_pos h1
  · exact (if_neg h1).trans (if_neg h2)
theorem out_1 {m : MS} {p n : Int32} (h : f_X7_out m p n = 1) : ¬ f_X7_out m p n = 0 := by rw [h]; decide
theorem le_lt {p M N : Int32} (hM : N.toInt = M.toInt + 1) : p ≤ M ↔ p < N := by
  rw [Int32.lt_iff_toInt_lt, Int32.le_iff_toInt_le]; omega
theorem rgL {p N : Int32} {n : Nat} (hN : N.toInt = n) (h1 : ¬ p < 0) (h2 : p < N) : rg n p := by
  obtain ⟨j, hj, e⟩ := nI_of h1
  refine ⟨j, ?_, e⟩
  rw [e, Int32.lt_iff_toInt_lt, nI_toInt hj, hN] at h2
  omega
theorem in_rg {p : Int32} {n N : Nat} (h : rg n p) (hN : n ≤ N) (hN2 : N < 2 ^ 31) : vp_in p N := by
  obtain ⟨j, hj, rfl⟩ := h
  exact vp_in_nI (by omega) hN2
theorem ne_k {k j : Nat} (h : k ≠ j) (hk : k < 2 ^ 31) (hj : j < 2 ^ 31) : ¬ nI k = nI j := fun q => h ((nI_eq hk hj).mp q)
theorem som {a b : String} (h : some a = some b) : b = a := (Option.some.inj h).symm
theorem sim1_poke {u : BS} (h : Inv u) (th a b : Int32) : ok_X7_poke (aM th u) a b ∧ f_X7_poke (aM th u) a b = aM (kc (f_X6_poke u a b).1) (f_X6_poke u a b).2.2 ∧ Inv (f_X6_poke u a b).2.2 ∧ ∀ E, (f_X6_poke u a b).1 = some E → E = x_IAE := by
  by_cases h1 : a < 0
  · have F : f_X6_poke u a b = (some x_IAE, 0, u) := if_pos h1
    have q := out_1 (out_ng (m := aM th u) (n := 2048) h1)
    have M : f_X7_poke (aM th u) a b = aM 1 u := (if_neg q).trans (if_neg (nf1 _ _))
    have O : ok_X7_poke (aM th u) a b := by unfold ok_X7_poke; rw [if_neg q]; exact trivial
    exact ⟨O, by rw [M, F, kc_IAE], by rw [F]; exact h, fun E e => by rw [F] at e; exact som e⟩
  by_cases h2 : a ≤ 2047
  · have h2' : a < 2048 := (le_lt rfl).mp h2
    have qa : f_X7_out (aM th u) a 2048 = 0 := out_in h1 h2'
    have ha := rgL (n := 2048) rfl h1 h2'
    have ra : a &&& 2047 = a := id_and 11 ha (by decide) (by decide) rfl
    by_cases h3 : b < 0
    · have F : f_X6_poke u a b = (some x_IAE, 0, u) := (if_neg h1).trans ((if_pos h2).trans (if_pos h3))
      have q := out_1 (out_ng (m := aM th u) (n := 256) h3)
      have M : f_X7_poke (aM th u) a b = aM 1 u := (if_pos qa).trans ((if_neg q).trans (if_neg (nf1 _ _)))
      have O : ok_X7_poke (aM th u) a b := by unfold ok_X7_poke; rw [if_pos qa, if_neg q]; exact trivial
      exact ⟨O, by rw [M, F, kc_IAE], by rw [F]; exact h, fun E e => by rw [F] at e; exact som e⟩
    by_cases h4 : b ≤ 255
    · have h4' : b < 256 := (le_lt rfl).mp h4
      have qb : f_X7_out (aM th u) b 256 = 0 := out_in h3 h4'
      have F : f_X6_poke u a b = (none, 0, f_X2_write u a b) := (if_neg h1).trans ((if_pos h2).trans ((if_neg h3).trans (if_pos h4)))
      have M : f_X7_poke (aM th u) a b = aM 0 (bs_mem u (upd (bq_mem u) a.toNatClampNeg b)) := (if_pos qa).trans ((if_pos qb).trans (if_pos (zf0 _ _)))
      have ew : f_X2_write u a b = bs_mem u (upd (bq_mem u) a.toNatClampNeg b) := by
        unfold f_X2_write
        rw [ra, id_255 (rgL rfl h3 h4')]
      have O : ok_X7_poke (aM th u) a b := by
        unfold ok_X7_poke; rw [if_pos qa, if_pos qb]
        exact ⟨in_rg ha (by decide) (by decide), trivial⟩
      exact ⟨O, by rw [M, F, kc_no, ew], by rw [F]; exact i_write h _ _, fun E e => by rw [F] at e; cases e⟩
    · have F : f_X6_poke u a b = (some x_IAE, 0, u) := (if_neg h1).trans ((if_pos h2).trans ((if_neg h3).trans (if_neg h4)))
      have q := out_1 (out_ge (m := aM th u) (p := b) (n := 256) (fun q => h4 ((le_lt rfl).mpr q)))
      have M : f_X7_poke (aM th u) a b = aM 1 u := (if_pos qa).trans ((if_neg q).trans (if_neg (nf1 _ _)))
      have O : ok_X7_poke (aM th u) a b := by unfold ok_X7_poke; rw [if_pos qa, if_neg q]; exact trivial
      exact ⟨O, by rw [M, F, kc_IAE], by rw [F]; exact h, fun E e => by rw [F] at e; exact som e⟩
  · have F : f_X6_poke u a b = (some x_IAE, 0, u) := (if_neg h1).trans (if_neg h2)
    have q := out_1 (out_ge (m := aM th u) (p := a) (n := 2048) (fun q => h2 ((le_lt rfl).mpr q)))
    have M : f_X7_poke (aM th u) a b = aM 1 u := (if_neg q).trans (if_neg (nf1 _ _))
    have O : ok_X7_poke (aM th u) a b := by unfold ok_X7_poke; rw [if_neg q]; exact trivial
    exact ⟨O, by rw [M, F, kc_IAE], by rw [F]; exact h, fun E e => by rw [F] at e; exact som e⟩
theorem sim1_peek {u : BS} (h : Inv u) (th a : Int32) : ok_X7_peek (aM th u) a ∧ f_X7_peek (aM th u) a = (f_X6_peek u a, aM 0 u) := by
  by_cases h1 : a < 0
  · have F : f_X6_peek u a = -1 := if_pos h1
    have q := out_1 (out_ng (m := aM 0 u) (n := 2048) h1)
    refine ⟨?_, ?_⟩
    · show (if f_X7_out (aM 0 u) a 2048 = 0 then vp_in a 2048 ∧ True else True)
      rw [if_neg q]; exact trivial
    · rw [F]; exact if_neg q
  by_cases h2 : a ≤ 2047
  · have h2' : a < 2048 := (le_lt rfl).mp h2
    have qa : f_X7_out (aM 0 u) a 2048 = 0 := out_in h1 h2'
    have ha := rgL (n := 2048) rfl h1 h2'
    have ra : a &&& 2047 = a := id_and 11 ha (by decide) (by decide) rfl
    have F : f_X6_peek u a = bq_mem u a.toNatClampNeg := by
      refine (if_neg h1).trans ((if_pos h2).trans ?_)
      unfold f_X2_read; rw [ra]
    refine ⟨?_, ?_⟩
    · show (if f_X7_out (aM 0 u) a 2048 = 0 then vp_in a 2048 ∧ True else True)
      rw [if_pos qa]; exact ⟨in_rg ha (by decide) (by decide), trivial⟩
    · rw [F]; exact if_pos qa
  · have F : f_X6_peek u a = -1 := (if_neg h1).trans (if_neg h2)
    have q := out_1 (out_ge (m := aM 0 u) (p := a) (n := 2048) (fun q => h2 ((le_lt rfl).mpr q)))
    refine ⟨?_, ?_⟩
    · show (if f_X7_out (aM 0 u) a 2048 = 0 then vp_in a 2048 ∧ True else True)
      rw [if_neg q]; exact trivial
    · rw [F]; exact if_neg q
theorem cpu_out {m : MS} {a : Int32} (e : f_X7_out m a 24 = 1) : f_X7_cpu m a = (0, ms_thrown m 1) := by
  unfold f_X7_cpu; rw [e]; rfl
theorem cpu_in {m : MS} {a : Int32} (e : f_X7_out m a 24 = 0) : f_X7_cpu m a = (mq_s (ms_thrown m 0) a.toNatClampNeg, ms_thrown m 0) := by
  unfold f_X7_cpu; rw [e]; rfl
theorem ocpu_out {m : MS} {a : Int32} (e : f_X7_out m a 24 = 1) : ok_X7_cpu m a := by
  unfold ok_X7_cpu; rw [e]; exact trivial
theorem ocpu_in {m : MS} {a : Int32} (e : f_X7_out m a 24 = 0) (hin : vp_in a 24) : ok_X7_cpu m a := by
  unfold ok_X7_cpu; rw [e]; exact ⟨hin, trivial⟩
theorem v_out {m : MS} {a : Int32} (e : f_X7_out m a 22 = 1) : f_X7_v m a = (0, ms_thrown m 1) := by
  unfold f_X7_v; rw [e]; rfl
theorem v_in {m : MS} {a : Int32} (e : f_X7_out m a 22 = 0) : f_X7_v m a = (mq_v (ms_thrown m 0) a.toNatClampNeg, ms_thrown m 0) := by
  unfold f_X7_v; rw [e]; rfl
theorem ov_out {m : MS} {a : Int32} (e : f_X7_out m a 22 = 1) : ok_X7_v m a := by
  unfold ok_X7_v; rw [e]; exact trivial
theorem ov_in {m : MS} {a : Int32} (e : f_X7_out m a 22 = 0) (hin : vp_in a 22) : ok_X7_v m a := by
  unfold ok_X7_v; rw [e]; exact ⟨hin, trivial⟩
theorem key_out {m : MS} {a b : Int32} (e : f_X7_out m a 16 = 1) : f_X7_key m a b = ms_thrown m 1 := by
  unfold f_X7_key; rw [e]; rfl
theorem key_in {m : MS} {a b : Int32} (e : f_X7_out m a 16 = 0) : f_X7_key m a b = ms_down (ms_thrown m 0) (upd (mq_down m) a.toNatClampNeg (vp_nar .boolean b)) := by
  unfold f_X7_key; rw [e]; rfl
theorem okey_out {m : MS} {a b : Int32} (e : f_X7_out m a 16 = 1) : ok_X7_key m a b := by
  unfold ok_X7_key; rw [e]; exact trivial
theorem okey_in {m : MS} {a b : Int32} (e : f_X7_out m a 16 = 0) (hin : vp_in a 16) : ok_X7_key m a b := by
  unfold ok_X7_key; rw [e]; exact ⟨hin, trivial⟩
theorem start_out {m : MS} {a : Int32} (e : f_X7_out m a 2048 = 1) : f_X7_start m a = ms_thrown m 1 := by
  unfold f_X7_start; rw [e]; rfl
theorem start_in {m : MS} {a : Int32} (e : f_X7_out m a 2048 = 0) : f_X7_start m a = ms_v (ms_v (ms_thrown m 0) (upd (mq_v m) 17 a)) (upd (mq_v (ms_v (ms_thrown m 0) (upd (mq_v m) 17 a))) 18 0) := by
  unfold f_X7_start; rw [e]; rfl
theorem video_out {m : MS} {a : Int32} (e : f_X7_out m a 6 = 1) : f_X7_video m a = (0, ms_thrown m 1) := by
  unfold f_X7_video; rw [e]; rfl
theorem video_in {m : MS} {a : Int32} (e : f_X7_out m a 6 = 0) : f_X7_video m a = (if a = 0 then (if mq_on m = 0 then (0, ms_thrown m 0) else (1, ms_thrown m 0)) else if a = 1 then (mq_line m, ms_thrown m 0) else if a = 2 then (mq_place m, ms_thrown m 0) else if a = 3 then (mq_frames m, ms_thrown m 0) else if a = 4 then (if f_X7_isLight (ms_thrown m 0) = 0 then (0, ms_thrown m 0) else (1, ms_thrown m 0)) else (mq_latch m, ms_thrown m 0)) := by
  unfold f_X7_video; rw [e]; rfl
theorem part_cpu {u : BS} {a : Int32} (th : Int32) (h : Inv u) (ha : rg 24 a) : ∃ b, ((none, (f_X4_part u a), u) : Option String × Int32 × BS) = (none, b, u) ∧ (mq_s (ms_thrown (aM th u) 0) a.toNatClampNeg, ms_thrown (aM th u) 0) = (b, aM 0 u) := by
  refine ⟨_, rfl, ?_⟩
  obtain ⟨k, hk, rfl⟩ := ha
  rw [nI_clamp (by omega), M_thrown]
  rcases (show k < 16 ∨ k = 16 ∨ k = 17 ∨ k = 18 ∨ k = 19 ∨ k = 20 ∨ k = 21 ∨ k = 22 ∨ k = 23 by omega) with hk | rfl | rfl | rfl | rfl | rfl | rfl | rfl | rfl
  · have e : f_X4_part u (nI k) = f_X4_register u (nI k) := (if_neg (ne_k (j := 16) (by omega) (by omega) (by omega))).trans ((if_neg (ne_k (j := 17) (by omega) (by omega) (by omega))).trans ((if_neg (ne_k (j := 18) (by omega) (by omega) (by omega))).trans ((if_neg (ne_k (j := 19) (by omega) (by omega) (by omega))).trans ((if_neg (ne_k (j := 20) (by omega) (by omega) (by omega))).trans ((if_neg (ne_k (j := 21) (by omega) (by omega) (by omega))).trans ((if_neg (ne_k (j := 22) (by omega) (by omega) (by omega))).trans (if_neg (ne_k (j := 23) (by omega) (by omega) (by omega)))))))))
    have e2 := s_reg (u := u) 0 (rg_k k hk)
    rw [nI_clamp (by omega)] at e2
    rw [e, e2]
  · rfl
  · rfl
  · rfl
  · rfl
  · rfl
  · rfl
  · rfl
  · have e : f_X4_part u (nI 23) = if bq_idle u = 0 then 0 else 1 := rfl
    rw [e, m_idle]
    rcases ar_2 (r_idle h) with q | q <;> rw [q] <;> rfl
theorem sim1_cpu {u : BS} (h : Inv u) (th a : Int32) : ok_X7_cpu (aM th u) a ∧ (∃ b, f_X7_cpu (aM th u) a = (b, aM (kc (f_X6_cpu u a).1) (f_X6_cpu u a).2.2) ∧ ((f_X6_cpu u a).1 = none → (f_X6_cpu u a).2.1 = b)) ∧ Inv (f_X6_cpu u a).2.2 ∧ ∀ E, (f_X6_cpu u a).1 = some E → E = x_NSE := by
  by_cases h1 : a < 0
  · have F : f_X6_cpu u a = (some x_NSE, 0, u) := if_pos h1
    have q := out_ng (m := aM th u) (n := 24) h1
    rw [F]
    exact ⟨ocpu_out q, ⟨0, by rw [cpu_out q, kc_NSE]; rfl, fun e => by cases e⟩, h, fun E e => som e⟩
  by_cases h2 : a ≤ 23
  · have h2' : a < 24 := (le_lt rfl).mp h2
    have q : f_X7_out (aM th u) a 24 = 0 := out_in h1 h2'
    have ha := rgL (n := 24) rfl h1 h2'
    obtain ⟨b, F, M⟩ := part_cpu th h ha
    have F' : f_X6_cpu u a = (none, b, u) := (if_neg h1).trans ((if_pos h2).trans F)
    rw [F']
    exact ⟨ocpu_in q (in_rg ha (by decide) (by decide)), ⟨b, by rw [cpu_in q, kc_no]; exact M, fun _ => rfl⟩, h, fun E e => by cases e⟩
  · have F : f_X6_cpu u a = (some x_NSE, 0, u) := (if_neg h1).trans (if_neg h2)
    have q := out_ge (m := aM th u) (p := a) (n := 24) (fun q => h2 ((le_lt rfl).mpr q))
    rw [F]
    exact ⟨ocpu_out q, ⟨0, by rw [cpu_out q, kc_NSE]; rfl, fun e => by cases e⟩, h, fun E e => som e⟩
theorem part_v {u : BS} {a : Int32} (th : Int32) (h : Inv u) (ha : rg 22 a) : ∃ b, (if a = 19 then ((none, (f_X5_delay u), u) : Option String × Int32 × BS) else if a = 20 then (none, (f_X5_tone u), u) else (none, (f_X1_part u a), u)) = (none, b, u) ∧ (mq_v (ms_thrown (aM th u) 0) a.toNatClampNeg, ms_thrown (aM th u) 0) = (b, aM 0 u) := by
  obtain ⟨k, hk, rfl⟩ := ha
  rw [nI_clamp (by omega), M_thrown]
  rcases (show k < 16 ∨ k = 16 ∨ k = 17 ∨ k = 18 ∨ k = 19 ∨ k = 20 ∨ k = 21 by omega) with hk | rfl | rfl | rfl | rfl | rfl | rfl
  · have e : f_X1_part u (nI k) = bq_vars u k := by
      have e0 : f_X1_part u (nI k) = f_X1_variable u (nI k) := (if_neg (ne_k (j := 16) (by omega) (by omega) (by omega))).trans ((if_neg (ne_k (j := 17) (by omega) (by omega) (by omega))).trans ((if_neg (ne_k (j := 18) (by omega) (by omega) (by omega))).trans (if_neg (ne_k (j := 21) (by omega) (by omega) (by omega)))))
      obtain ⟨h1, h2⟩ := ix_15 (rg_k k hk)
      rw [e0]; unfold f_X1_variable
      rw [h1, nI_clamp (by omega)]
    refine ⟨bq_vars u k, ?_, by rw [m_vars hk]⟩
    rw [← e]
    exact (if_neg (ne_k (j := 19) (by omega) (by omega) (by omega))).trans (if_neg (ne_k (j := 20) (by omega) (by omega) (by omega)))
  · exact ⟨bq_index u, rfl, rfl⟩
  · exact ⟨bq_pc u, rfl, rfl⟩
  · exact ⟨bq_depth u, rfl, rfl⟩
  · exact ⟨bq_delay u, rfl, rfl⟩
  · exact ⟨bq_tone u, rfl, rfl⟩
  · exact ⟨bq_random u, rfl, rfl⟩
theorem sim1_v {u : BS} (h : Inv u) (th a : Int32) : ok_X7_v (aM th u) a ∧ (∃ b, f_X7_v (aM th u) a = (b, aM (kc (f_X6_v u a).1) (f_X6_v u a).2.2) ∧ ((f_X6_v u a).1 = none → (f_X6_v u a).2.1 = b)) ∧ Inv (f_X6_v u a).2.2 ∧ ∀ E, (f_X6_v u a).1 = some E → E = x_NSE := by
  by_cases h1 : a < 0
  · have F : f_X6_v u a = (some x_NSE, 0, u) := if_pos h1
    have q := out_ng (m := aM th u) (n := 22) h1
    rw [F]
    exact ⟨ov_out q, ⟨0, by rw [v_out q, kc_NSE]; rfl, fun e => by cases e⟩, h, fun E e => som e⟩
  by_cases h2 : a ≤ 21
  · have h2' : a < 22 := (le_lt rfl).mp h2
    have q : f_X7_out (aM th u) a 22 = 0 := out_in h1 h2'
    have ha := rgL (n := 22) rfl h1 h2'
    obtain ⟨b, F, M⟩ := part_v th h ha
    have F' : f_X6_v u a = (none, b, u) := (if_neg h1).trans ((if_pos h2).trans F)
    rw [F']
    exact ⟨ov_in q (in_rg ha (by decide) (by decide)), ⟨b, by rw [v_in q, kc_no]; exact M, fun _ => rfl⟩, h, fun E e => by cases e⟩
  · have F : f_X6_v u a = (some x_NSE, 0, u) := (if_neg h1).trans (if_neg h2)
    have q := out_ge (m := aM th u) (p := a) (n := 22) (fun q => h2 ((le_lt rfl).mpr q))
    rw [F]
    exact ⟨ov_out q, ⟨0, by rw [v_out q, kc_NSE]; rfl, fun e => by cases e⟩, h, fun E e => som e⟩
theorem part_video {u : BS} {a : Int32} (th : Int32) (h : Inv u) (ha : rg 6 a) : ∃ b, (if a = 5 then ((none, (f_X0_asked u), u) : Option String × Int32 × BS) else (none, (f_X3_part u a), u)) = (none, b, u) ∧ (if a = 0 then (if mq_on (aM th u) = 0 then ((0 : Int32), ms_thrown (aM th u) 0) else (1, ms_thrown (aM th u) 0)) else if a = 1 then (mq_line (aM th u), ms_thrown (aM th u) 0) else if a = 2 then (mq_place (aM th u), ms_thrown (aM th u) 0) else if a = 3 then (mq_frames (aM th u), ms_thrown (aM th u) 0) else if a = 4 then (if f_X7_isLight (ms_thrown (aM th u) 0) = 0 then (0, ms_thrown (aM th u) 0) else (1, ms_thrown (aM th u) 0)) else (mq_latch (aM th u), ms_thrown (aM th u) 0)) = (b, aM 0 u) := by
  obtain ⟨k, hk, rfl⟩ := ha
  rw [M_thrown, s_light]
  rcases (show k = 0 ∨ k = 1 ∨ k = 2 ∨ k = 3 ∨ k = 4 ∨ k = 5 by omega) with rfl | rfl | rfl | rfl | rfl | rfl
  · rcases ar_2 (r_on h) with q | q
    · exact ⟨0, by show ((none, (if bq_on u = 0 then 0 else 1), u) : Option String × Int32 × BS) = _; rw [q]; rfl, by show (if bq_on u = 0 then ((0 : Int32), aM 0 u) else (1, aM 0 u)) = _; rw [q]; rfl⟩
    · exact ⟨1, by show ((none, (if bq_on u = 0 then 0 else 1), u) : Option String × Int32 × BS) = _; rw [q]; rfl, by show (if bq_on u = 0 then ((0 : Int32), aM 0 u) else (1, aM 0 u)) = _; rw [q]; rfl⟩
  · exact ⟨bq_line u, rfl, rfl⟩
  · exact ⟨bq_place u, rfl, rfl⟩
  · exact ⟨bq_frames u, rfl, rfl⟩
  · rcases v_flag u with q | q
    · exact ⟨0, by show ((none, (if f_X3_flag u = 0 then 0 else 1), u) : Option String × Int32 × BS) = _; rw [q]; rfl, by show (if f_X3_flag u = 0 then ((0 : Int32), aM 0 u) else (1, aM 0 u)) = _; rw [q]; rfl⟩
    · exact ⟨1, by show ((none, (if f_X3_flag u = 0 then 0 else 1), u) : Option String × Int32 × BS) = _; rw [q]; rfl, by show (if f_X3_flag u = 0 then ((0 : Int32), aM 0 u) else (1, aM 0 u)) = _; rw [q]; rfl⟩
  · exact ⟨bq_asked u, rfl, rfl⟩
theorem sim1_video {u : BS} (h : Inv u) (th a : Int32) : (∃ b, f_X7_video (aM th u) a = (b, aM (kc (f_X6_video u a).1) (f_X6_video u a).2.2) ∧ ((f_X6_video u a).1 = none → (f_X6_video u a).2.1 = b)) ∧ Inv (f_X6_video u a).2.2 ∧ ∀ E, (f_X6_video u a).1 = some E → E = x_NSE := by
  by_cases h1 : a < 0
  · have F : f_X6_video u a = (some x_NSE, 0, u) := if_pos h1
    have q := out_ng (m := aM th u) (n := 6) h1
    rw [F]
    exact ⟨⟨0, by rw [video_out q, kc_NSE]; rfl, fun e => by cases e⟩, h, fun E e => som e⟩
  by_cases h2 : a ≤ 5
  · have h2' : a < 6 := (le_lt rfl).mp h2
    have q : f_X7_out (aM th u) a 6 = 0 := out_in h1 h2'
    have ha := rgL (n := 6) rfl h1 h2'
    obtain ⟨b, F, M⟩ := part_video th h ha
    have F' : f_X6_video u a = (none, b, u) := (if_neg h1).trans ((if_pos h2).trans F)
    rw [F']
    exact ⟨⟨b, by rw [video_in q, kc_no]; exact M, fun _ => rfl⟩, h, fun E e => by cases e⟩
  · have F : f_X6_video u a = (some x_NSE, 0, u) := (if_neg h1).trans (if_neg h2)
    have q := out_ge (m := aM th u) (p := a) (n := 6) (fun q => h2 ((le_lt rfl).mpr q))
    rw [F]
    exact ⟨⟨0, by rw [video_out q, kc_NSE]; rfl, fun e => by cases e⟩, h, fun E e => som e⟩
theorem sim1_key {u : BS} (h : Inv u) (th a b : Int32) (hb : b = 0 ∨ b = 1) : ok_X7_key (aM th u) a b ∧ f_X7_key (aM th u) a b = aM (kc (f_X6_key u a b).1) (f_X6_key u a b).2.2 ∧ Inv (f_X6_key u a b).2.2 ∧ ∀ E, (f_X6_key u a b).1 = some E → E = x_IAE := by
  by_cases h1 : a < 0
  · have F : f_X6_key u a b = (some x_IAE, 0, u) := if_pos h1
    have q := out_ng (m := aM th u) (n := 16) h1
    rw [F]
    exact ⟨okey_out q, by rw [key_out q, kc_IAE]; rfl, h, fun E e => som e⟩
  by_cases h2 : a ≤ 15
  · have h2' : a < 16 := (le_lt rfl).mp h2
    have q : f_X7_out (aM th u) a 16 = 0 := out_in h1 h2'
    have ha := rgL (n := 16) rfl h1 h2'
    have F : f_X6_key u a b = (none, 0, f_X0_move u a b) := (if_neg h1).trans (if_pos h2)
    have hb2 : rg 2 b := by rcases hb with rfl | rfl; exact ⟨0, by decide, by decide⟩; exact ⟨1, by decide, by decide⟩
    rw [F]
    refine ⟨okey_in q (in_rg ha (by decide) (by decide)), ?_, i_keys h (by rw [ar_nar hb2]; exact hb2), fun E e => by cases e⟩
    rw [key_in q, kc_no]
    unfold f_X0_move
    rw [id_15 ha]; rfl
  · have F : f_X6_key u a b = (some x_IAE, 0, u) := (if_neg h1).trans (if_neg h2)
    have q := out_ge (m := aM th u) (p := a) (n := 16) (fun q => h2 ((le_lt rfl).mpr q))
    rw [F]
    exact ⟨okey_out q, by rw [key_out q, kc_IAE]; rfl, h, fun E e => som e⟩
theorem sim1_start {u : BS} (h : Inv u) (th a : Int32) : f_X7_start (aM th u) a = aM (kc (f_X6_start u a).1) (f_X6_start u a).2.2 ∧ Inv (f_X6_start u a).2.2 ∧ ∀ E, (f_X6_start u a).1 = some E → E = x_IAE := by
  by_cases h1 : a < 0
  · have F : f_X6_start u a = (some x_IAE, 0, u) := if_pos h1
    have q := out_ng (m := aM th u) (n := 2048) h1
    rw [F]
    exact ⟨by rw [start_out q, kc_IAE]; rfl, h, fun E e => som e⟩
  by_cases h2 : a ≤ 2047
  · have h2' : a < 2048 := (le_lt rfl).mp h2
    have q : f_X7_out (aM th u) a 2048 = 0 := out_in h1 h2'
    have ha := rgL (n := 2048) rfl h1 h2'
    have F : f_X6_start u a = (none, 0, f_X1_restart u a) := (if_neg h1).trans (if_pos h2)
    rw [F]
    refine ⟨?_, i_depth (i_pc h (rg_w ha (by decide))) (rg_0 (by decide)), fun E e => by cases e⟩
    rw [start_in q, kc_no]
    have e1 : ms_v (ms_thrown (aM th u) 0) (upd (mq_v (aM th u)) 17 a) = aM 0 (bs_pc u a) := M_pc 0 u a
    rw [e1, M_depth]; rfl
  · have F : f_X6_start u a = (some x_IAE, 0, u) := (if_neg h1).trans (if_neg h2)
    have q := out_ge (m := aM th u) (p := a) (n := 2048) (fun q => h2 ((le_lt rfl).mpr q))
    rw [F]
    exact ⟨by rw [start_out q, kc_IAE]; rfl, h, fun E e => som e⟩
theorem sh_ix {p c : Int32} (hp : rg 128 p) (hc : rg 8 c) : ((8 : Int32) * p) + c = ((p * 8) + c) &&& 1023 ∧ rg 1024 (((8 : Int32) * p) + c) := by
  obtain ⟨j, hj, rfl⟩ := hp
  obtain ⟨k, hk, rfl⟩ := hc
  have e1 : (8 : Int32) * nI j = nI (8 * j) := pk_mul 8 _
  have e2 : nI j * (8 : Int32) = nI (8 * j) := by rw [Int32.mul_comm]; exact e1
  rw [e1, e2, nI_add]
  have q : rg 1024 (nI (8 * j + k)) := ⟨_, by omega, rfl⟩
  exact ⟨(id_and 10 q (by decide) (by decide) rfl).symm, q⟩
theorem sim1_shown {u : BS} (h : Inv u) (th a b : Int32) : ok_X6_shown u a b ∧ ok_X7_shown (aM th u) a b ∧ (∃ r, f_X7_shown (aM th u) a b = (r, aM (kc (f_X6_shown u a b).1) (f_X6_shown u a b).2.2) ∧ ((f_X6_shown u a b).1 = none → (f_X6_shown u a b).2.1 = r)) ∧ Inv (f_X6_shown u a b).2.2 ∧ ∀ E, (f_X6_shown u a b).1 = some E → E = x_NSE := by
  by_cases h1 : ¬ a < 0 ∧ a < 128
  · obtain ⟨h1, h2⟩ := h1
    have qa : f_X7_out (aM th u) a 128 = 0 := out_in h1 h2
    by_cases h3 : ¬ b < 0 ∧ b < 8
    · obtain ⟨h3, h4⟩ := h3
      have qb : f_X7_out (aM th u) b 8 = 0 := out_in h3 h4
      obtain ⟨x1, x2⟩ := sh_ix (rgL (n := 128) rfl h1 h2) (rgL (n := 8) rfl h3 h4)
      have F : f_X6_shown u a b = (none, bq_screen u (((8 : Int32) * a) + b).toNatClampNeg, u) := by
        refine (if_neg h1).trans ((if_pos h2).trans ((if_neg h3).trans ((if_pos h4).trans ?_)))
        unfold f_X3_fetchedByte f_X3_spot
        rw [x1]
      have M : f_X7_shown (aM th u) a b = (bq_screen u (((8 : Int32) * a) + b).toNatClampNeg, aM 0 u) := (if_pos qa).trans ((if_pos qb).trans (if_pos (zf0 _ _)))
      rw [F, M]
      refine ⟨?_, ?_, ⟨_, by rw [kc_no], fun _ => rfl⟩, h, fun E e => by cases e⟩
      · unfold ok_X6_shown; rw [if_neg h1, if_pos h2, if_neg h3, if_pos h4]
        exact ⟨⟨pk_andIn _ 10 rfl (by decide), trivial⟩, trivial⟩
      · unfold ok_X7_shown; rw [if_pos qa, if_pos qb]
        exact ⟨in_rg x2 (by decide) (by decide), trivial⟩
    · have F : f_X6_shown u a b = (some x_NSE, 0, u) := by
        refine (if_neg h1).trans ((if_pos h2).trans ?_)
        by_cases h4 : b < 0
        · exact if_pos h4
        · exact (if_neg h4).trans (if_neg (fun q => h3 ⟨h4, q⟩))
      have q : f_X7_out (aM th u) b 8 = 1 := by
        by_cases h4 : b < 0
        · exact out_ng h4
        · exact out_ge (fun q => h3 ⟨h4, q⟩)
      have M : f_X7_shown (aM th u) a b = (0, aM 1 u) := (if_pos qa).trans ((if_neg (out_1 q)).trans (if_neg (nf1 _ _)))
      rw [F, M]
      refine ⟨?_, ?_, ⟨_, by rw [kc_NSE], fun e => by cases e⟩, h, fun E e => som e⟩
      · unfold ok_X6_shown; rw [if_neg h1, if_pos h2]
        by_cases h4 : b < 0
        · rw [if_pos h4]; exact trivial
        · rw [if_neg h4, if_neg (fun q => h3 ⟨h4, q⟩)]; exact trivial
      · unfold ok_X7_shown; rw [if_pos qa, if_neg (out_1 q)]
        exact trivial
  · have F : f_X6_shown u a b = (some x_NSE, 0, u) := by
      by_cases h4 : a < 0
      · exact if_pos h4
      · exact (if_neg h4).trans (if_neg (fun q => h1 ⟨h4, q⟩))
    have q : f_X7_out (aM th u) a 128 = 1 := by
      by_cases h4 : a < 0
      · exact out_ng h4
      · exact out_ge (fun q => h1 ⟨h4, q⟩)
    have M : f_X7_shown (aM th u) a b = (0, aM 1 u) := (if_neg (out_1 q)).trans (if_neg (nf1 _ _))
    rw [F, M]
    refine ⟨?_, ?_, ⟨_, by rw [kc_NSE], fun e => by cases e⟩, h, fun E e => som e⟩
    · unfold ok_X6_shown
      by_cases h4 : a < 0
      · rw [if_pos h4]; exact trivial
      · rw [if_neg h4, if_neg (fun q => h1 ⟨h4, q⟩)]; exact trivial
    · unfold ok_X7_shown; rw [if_neg (out_1 q)]
      exact trivial
def setM (m : MS) (p0 p1 N : Int32) : MS := if (f_X7_out m p0 23) = 0 then (if (f_X7_out m p1 N) = 0 then (if (f_X7_fails m 0 1).1 = 0 then ms_s (f_X7_fails m 0 1).2 (upd (mq_s (f_X7_fails m 0 1).2) p0.toNatClampNeg p1) else (f_X7_fails m 0 1).2) else (if (f_X7_fails m 1 1).1 = 0 then ms_s (f_X7_fails m 1 1).2 (upd (mq_s (f_X7_fails m 1 1).2) p0.toNatClampNeg p1) else (f_X7_fails m 1 1).2)) else (if (f_X7_fails m 1 1).1 = 0 then ms_s (f_X7_fails m 1 1).2 (upd (mq_s (f_X7_fails m 1 1).2) p0.toNatClampNeg p1) else (f_X7_fails m 1 1).2)
theorem set_eq (m : MS) (p0 p1 : Int32) : f_X7_set m p0 p1 = if 16 ≤ p0 then (if p0 = 16 then setM m p0 p1 256 else if p0 = 20 then setM m p0 p1 256 else if p0 = 18 then setM m p0 p1 16 else if p0 = 19 then setM m p0 p1 16 else setM m p0 p1 2) else setM m p0 p1 65536 := rfl
theorem setM_no {m : MS} {p0 : Int32} (q : f_X7_out m p0 23 = 1) (p1 N : Int32) : setM m p0 p1 N = ms_thrown m 1 := (if_neg (out_1 q)).trans (if_neg (nf1 _ _))
theorem set_no {m : MS} {p0 : Int32} (q : f_X7_out m p0 23 = 1) (p1 : Int32) : f_X7_set m p0 p1 = ms_thrown m 1 := by
  rw [set_eq]; simp only [setM_no q, ite_self]
theorem o_set {m : MS} (p0 p1 : Int32) (hin : f_X7_out m p0 23 = 0 → vp_in p0 24) : ok_X7_set m p0 p1 := by
  by_cases q : f_X7_out m p0 23 = 0
  · have hi := hin q
    unfold ok_X7_set
    simp only [hi, ite_self, and_self]
  · unfold ok_X7_set
    simp only [if_neg q, ite_self, fl1]
    exact trivial
theorem setL {u : BS} {b : Int32} (h : Inv u) (th : Int32) (k N : Nat) (hk : k < 23) (hN : 0 < N) (hN2 : N ≤ 65536) (hm : f_X4_mostOf u (nI k) = nI (N - 1)) (hs : ∀ b, rg N b → ms_s (aM 0 u) (upd (mq_s (aM 0 u)) k b) = aM 0 (f_X4_change u (nI k) b) ∧ Inv (f_X4_change u (nI k) b)) : setM (aM th u) (nI k) b (nI N) = aM (kc (f_X6_set u (nI k) b).1) (f_X6_set u (nI k) b).2.2 ∧ Inv (f_X6_set u (nI k) b).2.2 ∧ ∀ E, (f_X6_set u (nI k) b).1 = some E → E = x_IAE := by
  have h1 : ¬ nI k < 0 := nI_pos (by omega)
  have h2 : nI k < 23 := nI_lt (b := 23) hk (by omega)
  have qa : f_X7_out (aM th u) (nI k) 23 = 0 := out_in h1 h2
  by_cases h3 : b < 0
  · have F : f_X6_set u (nI k) b = (some x_IAE, 0, u) := (if_neg h1).trans ((if_pos h2).trans (if_pos h3))
    have M : setM (aM th u) (nI k) b (nI N) = aM 1 u := (if_pos qa).trans ((if_neg (out_1 (out_ng h3))).trans (if_neg (nf1 _ _)))
    rw [F, M, kc_IAE]
    exact ⟨rfl, h, fun E e => som e⟩
  have hle : b ≤ nI (N - 1) ↔ b < nI N := le_lt (by rw [nI_toInt (by omega), nI_toInt (by omega)]; omega)
  by_cases h4 : b < nI N
  · have F : f_X6_set u (nI k) b = (none, 0, f_X4_change u (nI k) b) := (if_neg h1).trans ((if_pos h2).trans ((if_neg h3).trans (if_pos (by rw [hm]; exact hle.mpr h4))))
    have M : setM (aM th u) (nI k) b (nI N) = ms_s (aM 0 u) (upd (mq_s (aM 0 u)) (nI k).toNatClampNeg b) := (if_pos qa).trans ((if_pos (out_in h3 h4)).trans (if_pos (zf0 _ _)))
    rw [nI_clamp (by omega)] at M
    obtain ⟨s1, s2⟩ := hs b (rgL (n := N) (nI_toInt (by omega)) h3 h4)
    rw [F, M, kc_no, s1]
    exact ⟨rfl, s2, fun E e => by cases e⟩
  · have F : f_X6_set u (nI k) b = (some x_IAE, 0, u) := (if_neg h1).trans ((if_pos h2).trans ((if_neg h3).trans (if_neg (by rw [hm]; exact fun q => h4 (hle.mp q)))))
    have M : setM (aM th u) (nI k) b (nI N) = aM 1 u := (if_pos qa).trans ((if_neg (out_1 (out_ge h4))).trans (if_neg (nf1 _ _)))
    rw [F, M, kc_IAE]
    exact ⟨rfl, h, fun E e => som e⟩
theorem sim1_set {u : BS} (h : Inv u) (th a b : Int32) : ok_X7_set (aM th u) a b ∧ f_X7_set (aM th u) a b = aM (kc (f_X6_set u a b).1) (f_X6_set u a b).2.2 ∧ Inv (f_X6_set u a b).2.2 ∧ ∀ E, (f_X6_set u a b).1 = some E → E = x_IAE := by
  by_cases hr : ¬ a < 0 ∧ a < 23
  · obtain ⟨h1, h2⟩ := hr
    obtain ⟨k, hk, rfl⟩ := rgL (n := 23) rfl h1 h2
    refine ⟨o_set _ _ (fun _ => vp_in_nI (by omega) (by omega)), ?_⟩
    rcases (show k < 16 ∨ k = 16 ∨ k = 17 ∨ k = 18 ∨ k = 19 ∨ k = 20 ∨ k = 21 ∨ k = 22 by omega) with hk | rfl | rfl | rfl | rfl | rfl | rfl | rfl
    · have e : f_X7_set (aM th u) (nI k) b = setM (aM th u) (nI k) b (nI 65536) := if_neg (nI_ge (b := 16) hk (by omega))
      rw [e]
      have em : f_X4_mostOf u (nI k) = nI (65536 - 1) := (if_neg (ne_k (j := 16) (by omega) (by omega) (by omega))).trans ((if_neg (ne_k (j := 17) (by omega) (by omega) (by omega))).trans ((if_neg (ne_k (j := 18) (by omega) (by omega) (by omega))).trans ((if_neg (ne_k (j := 19) (by omega) (by omega) (by omega))).trans ((if_neg (ne_k (j := 20) (by omega) (by omega) (by omega))).trans ((if_neg (ne_k (j := 21) (by omega) (by omega) (by omega))).trans (if_neg (ne_k (j := 22) (by omega) (by omega) (by omega))))))))
      refine setL h th k 65536 (by omega) (by omega) (by omega) em ?_
      intro b hb
      have ec : f_X4_change u (nI k) b = f_X4_putRegister u (nI k) b := (if_neg (ne_k (j := 16) (by omega) (by omega) (by omega))).trans ((if_neg (ne_k (j := 17) (by omega) (by omega) (by omega))).trans ((if_neg (ne_k (j := 18) (by omega) (by omega) (by omega))).trans ((if_neg (ne_k (j := 19) (by omega) (by omega) (by omega))).trans ((if_neg (ne_k (j := 20) (by omega) (by omega) (by omega))).trans ((if_neg (ne_k (j := 21) (by omega) (by omega) (by omega))).trans (if_neg (ne_k (j := 22) (by omega) (by omega) (by omega))))))))
      have e2 := s_put (u := u) 0 (rg_k k hk) hb
      rw [nI_clamp (by omega)] at e2
      rw [ec]
      exact ⟨e2, i_put h _ _⟩
    · have e : f_X7_set (aM th u) (nI 16) b = setM (aM th u) (nI 16) b (nI 256) := (if_pos (by decide)).trans (if_pos rfl)
      rw [e]
      have em : f_X4_mostOf u (nI 16) = nI (256 - 1) := if_pos (by decide)
      refine setL h th 16 256 (by omega) (by omega) (by omega) em ?_
      intro b hb
      have ec : f_X4_change u (nI 16) b = bs_d u b := if_pos (by decide)
      rw [ec]
      exact ⟨M_d 0 u b, i_d h hb⟩
    · have e : f_X7_set (aM th u) (nI 17) b = setM (aM th u) (nI 17) b (nI 2) := (if_pos (by decide)).trans ((if_neg (by decide)).trans ((if_neg (by decide)).trans ((if_neg (by decide)).trans (if_neg (by decide)))))
      rw [e]
      have em : f_X4_mostOf u (nI 17) = nI (2 - 1) := (if_neg (by decide)).trans (if_pos (by decide))
      refine setL h th 17 2 (by omega) (by omega) (by omega) em ?_
      intro b hb
      have ec : f_X4_change u (nI 17) b = bs_df u b := (if_neg (by decide)).trans (if_pos (by decide))
      rw [ec]
      exact ⟨M_df 0 u b, i_df h hb⟩
    · have e : f_X7_set (aM th u) (nI 18) b = setM (aM th u) (nI 18) b (nI 16) := (if_pos (by decide)).trans ((if_neg (by decide)).trans ((if_neg (by decide)).trans (if_pos rfl)))
      rw [e]
      have em : f_X4_mostOf u (nI 18) = nI (16 - 1) := (if_neg (by decide)).trans ((if_neg (by decide)).trans (if_pos (by decide)))
      refine setL h th 18 16 (by omega) (by omega) (by omega) em ?_
      intro b hb
      have ec : f_X4_change u (nI 18) b = bs_p u b := (if_neg (by decide)).trans ((if_neg (by decide)).trans (if_pos (by decide)))
      rw [ec]
      exact ⟨M_p 0 u b, i_p h hb⟩
    · have e : f_X7_set (aM th u) (nI 19) b = setM (aM th u) (nI 19) b (nI 16) := (if_pos (by decide)).trans ((if_neg (by decide)).trans ((if_neg (by decide)).trans ((if_neg (by decide)).trans (if_pos rfl))))
      rw [e]
      have em : f_X4_mostOf u (nI 19) = nI (16 - 1) := (if_neg (by decide)).trans ((if_neg (by decide)).trans ((if_neg (by decide)).trans (if_pos (by decide))))
      refine setL h th 19 16 (by omega) (by omega) (by omega) em ?_
      intro b hb
      have ec : f_X4_change u (nI 19) b = bs_x u b := (if_neg (by decide)).trans ((if_neg (by decide)).trans ((if_neg (by decide)).trans (if_pos (by decide))))
      rw [ec]
      exact ⟨M_x 0 u b, i_x h hb⟩
    · have e : f_X7_set (aM th u) (nI 20) b = setM (aM th u) (nI 20) b (nI 256) := (if_pos (by decide)).trans ((if_neg (by decide)).trans (if_pos rfl))
      rw [e]
      have em : f_X4_mostOf u (nI 20) = nI (256 - 1) := (if_neg (by decide)).trans ((if_neg (by decide)).trans ((if_neg (by decide)).trans ((if_neg (by decide)).trans (if_pos (by decide)))))
      refine setL h th 20 256 (by omega) (by omega) (by omega) em ?_
      intro b hb
      have ec : f_X4_change u (nI 20) b = bs_t u b := (if_neg (by decide)).trans ((if_neg (by decide)).trans ((if_neg (by decide)).trans ((if_neg (by decide)).trans (if_pos (by decide)))))
      rw [ec]
      exact ⟨M_t 0 u b, i_t h hb⟩
    · have e : f_X7_set (aM th u) (nI 21) b = setM (aM th u) (nI 21) b (nI 2) := (if_pos (by decide)).trans ((if_neg (by decide)).trans ((if_neg (by decide)).trans ((if_neg (by decide)).trans (if_neg (by decide)))))
      rw [e]
      have em : f_X4_mostOf u (nI 21) = nI (2 - 1) := (if_neg (by decide)).trans ((if_neg (by decide)).trans ((if_neg (by decide)).trans ((if_neg (by decide)).trans ((if_neg (by decide)).trans (if_pos (by decide))))))
      refine setL h th 21 2 (by omega) (by omega) (by omega) em ?_
      intro b hb
      have ec : f_X4_change u (nI 21) b = bs_ie u b := (if_neg (by decide)).trans ((if_neg (by decide)).trans ((if_neg (by decide)).trans ((if_neg (by decide)).trans ((if_neg (by decide)).trans (if_pos (by decide))))))
      rw [ec]
      exact ⟨M_ie 0 u b, i_ie h hb⟩
    · have e : f_X7_set (aM th u) (nI 22) b = setM (aM th u) (nI 22) b (nI 2) := (if_pos (by decide)).trans ((if_neg (by decide)).trans ((if_neg (by decide)).trans ((if_neg (by decide)).trans (if_neg (by decide)))))
      rw [e]
      have em : f_X4_mostOf u (nI 22) = nI (2 - 1) := (if_neg (by decide)).trans ((if_neg (by decide)).trans ((if_neg (by decide)).trans ((if_neg (by decide)).trans ((if_neg (by decide)).trans ((if_neg (by decide)).trans (if_pos (by decide)))))))
      refine setL h th 22 2 (by omega) (by omega) (by omega) em ?_
      intro b hb
      have ec : f_X4_change u (nI 22) b = bs_q u b := (if_neg (by decide)).trans ((if_neg (by decide)).trans ((if_neg (by decide)).trans ((if_neg (by decide)).trans ((if_neg (by decide)).trans ((if_neg (by decide)).trans (if_pos (by decide)))))))
      rw [ec]
      exact ⟨M_q 0 u b, i_q h hb⟩
  · have q : f_X7_out (aM th u) a 23 = 1 := by
      by_cases h4 : a < 0
      · exact out_ng h4
      · exact out_ge (fun q => hr ⟨h4, q⟩)
    have F : f_X6_set u a b = (some x_IAE, 0, u) := by
      by_cases h4 : a < 0
      · exact if_pos h4
      · exact (if_neg h4).trans (if_neg (fun q => hr ⟨h4, q⟩))
    rw [set_no q, F, kc_IAE]
    exact ⟨o_set _ _ (fun z => by rw [q] at z; exact absurd z (by decide)), rfl, h, fun E e => som e⟩
theorem sim1_run {u : BS} (h : Inv u) (th a : Int32) : ok_X6_run u a ∧ ok_X7_run (aM th u) a ∧ (∃ b, f_X7_run (aM th u) a = (b, aM (kc (f_X6_run u a).1) (f_X6_run u a).2.2) ∧ ((f_X6_run u a).1 = none → (f_X6_run u a).2.1 = b)) ∧ Inv (f_X6_run u a).2.2 ∧ ∀ E, (f_X6_run u a).1 = some E → E = x_IAE := by
  by_cases h1 : a < 1
  · have F : f_X6_run u a = (some x_IAE, 0, u) := if_pos h1
    have M : f_X7_run (aM th u) a = (0, aM 1 u) := (if_pos h1).trans (if_neg (nf1 _ _))
    rw [F, M]
    refine ⟨?_, ?_, ⟨0, by rw [kc_IAE], fun e => by cases e⟩, h, fun E e => som e⟩
    · unfold ok_X6_run; rw [if_pos h1]; exact trivial
    · unfold ok_X7_run; rw [if_pos h1]; exact trivial
  by_cases h2 : a ≤ 4000
  · have h0 : ¬ a < 0 := by
      rw [Int32.lt_iff_toInt_lt, show (1 : Int32).toInt = 1 from rfl] at h1
      rw [Int32.lt_iff_toInt_lt, show (0 : Int32).toInt = 0 from rfl]; omega
    obtain ⟨n, hn, rfl⟩ := nI_of2 (M := 4000) (n := 4000) rfl h0 h2
    have F : f_X6_run u (nI n) = f_X6_run_L 4001 u (nI n) 0 0 := (if_neg h1).trans (if_pos h2)
    have M : f_X7_run (aM th u) (nI n) = f_X7_run_L 4001 (aM 0 u) (nI n) 0 := (if_neg h1).trans ((if_pos h2).trans (if_pos (zf0 _ _)))
    obtain ⟨y1, y2, y3, y4, y5⟩ := s_runL 0 n hn 4001 u 0 0 h (by omega) (by omega) (by omega)
    rw [F, M]
    refine ⟨?_, ?_, ⟨_, by rw [show f_X6_run_L 4001 u (nI n) 0 0 = f_X6_run_L 4001 u (nI n) (nI 0) (nI 0) from rfl, y4, kc_no]; exact y3, fun _ => rfl⟩, y5, fun E e => ?_⟩
    · unfold ok_X6_run; rw [if_neg h1, if_pos h2]; exact y1
    · unfold ok_X7_run; rw [if_neg h1, if_pos h2]; exact (show (if (f_X7_fails (aM th u) 0 1).1 = 0 then ok_X7_run_L 4001 (f_X7_fails (aM th u) 0 1).2 (nI n) 0 else True) from by rw [if_pos (zf0 _ _)]; exact y2)
    · rw [show f_X6_run_L 4001 u (nI n) 0 0 = f_X6_run_L 4001 u (nI n) (nI 0) (nI 0) from rfl, y4] at e; cases e
  · have F : f_X6_run u a = (some x_IAE, 0, u) := (if_neg h1).trans (if_neg h2)
    have M : f_X7_run (aM th u) a = (0, aM 1 u) := (if_neg h1).trans ((if_neg h2).trans (if_neg (nf1 _ _)))
    rw [F, M]
    refine ⟨?_, ?_, ⟨0, by rw [kc_IAE], fun e => by cases e⟩, h, fun E e => som e⟩
    · unfold ok_X6_run; rw [if_neg h1, if_neg h2]; exact trivial
    · unfold ok_X7_run; rw [if_neg h1, if_neg h2]; exact trivial
